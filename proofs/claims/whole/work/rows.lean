section
/-! Part A of the kit's SKELETON (a starting text), as printed for this claim. -/
-- ===== PART A: goes FIRST, ahead of the names: the tables' words, and 'selects' of the private methods out of them =====
/-- a private method of a class that the tables say can be made, by its rows of tables_1 -/
def lw_okq (q : MethodName × Nat) : Prop := (q.1.cls ≠ "java/lang/invoke/MethodHandle" ∧ q.1.cls ≠ "java/lang/invoke/VarHandle") ∧ Cond.instantiable q.1.cls q.2 ∈ tables_1 ∧ Cond.privateMethod q.1 ∈ tables_1 ∧ Cond.instanceMethod q.1 ∈ tables_1
theorem lw_p0 : lw_okq (⟨"DykeFarms$Script", "firstFault", "()I"⟩, 2) := ⟨⟨by decide +kernel, by decide +kernel⟩, List.mem_of_getElem? (i := 17) (by decide +kernel), List.mem_of_getElem? (i := 138) (by decide +kernel), List.mem_of_getElem? (i := 139) (by decide +kernel)⟩
theorem lw_p1 : lw_okq (⟨"DykeFarms$Script", "letterAt", "(I)I"⟩, 2) := ⟨⟨by decide +kernel, by decide +kernel⟩, List.mem_of_getElem? (i := 17) (by decide +kernel), List.mem_of_getElem? (i := 142) (by decide +kernel), List.mem_of_getElem? (i := 143) (by decide +kernel)⟩
theorem lw_p2 : lw_okq (⟨"DykeFarms$Script", "rightFigures", "(I)I"⟩, 2) := ⟨⟨by decide +kernel, by decide +kernel⟩, List.mem_of_getElem? (i := 17) (by decide +kernel), List.mem_of_getElem? (i := 146) (by decide +kernel), List.mem_of_getElem? (i := 147) (by decide +kernel)⟩
theorem lw_p3 : lw_okq (⟨"DykeFarms$Script", "figureAt", "(I)I"⟩, 2) := ⟨⟨by decide +kernel, by decide +kernel⟩, List.mem_of_getElem? (i := 17) (by decide +kernel), List.mem_of_getElem? (i := 152) (by decide +kernel), List.mem_of_getElem? (i := 153) (by decide +kernel)⟩
theorem lw_p4 : lw_okq (⟨"DykeFarms$Held", "clear", "()V"⟩, 7) := ⟨⟨by decide +kernel, by decide +kernel⟩, List.mem_of_getElem? (i := 33) (by decide +kernel), List.mem_of_getElem? (i := 172) (by decide +kernel), List.mem_of_getElem? (i := 173) (by decide +kernel)⟩
theorem lw_p5 : lw_okq (⟨"DykeFarms", "settleFarm", "(I)V"⟩, 18) := ⟨⟨by decide +kernel, by decide +kernel⟩, List.mem_of_getElem? (i := 9) (by decide +kernel), List.mem_of_getElem? (i := 180) (by decide +kernel), List.mem_of_getElem? (i := 181) (by decide +kernel)⟩
theorem lw_p6 : lw_okq (⟨"DykeFarms", "everyFarm", "()I"⟩, 18) := ⟨⟨by decide +kernel, by decide +kernel⟩, List.mem_of_getElem? (i := 9) (by decide +kernel), List.mem_of_getElem? (i := 191) (by decide +kernel), List.mem_of_getElem? (i := 192) (by decide +kernel)⟩
theorem lw_p7 : lw_okq (⟨"DykeFarms", "clayOf", "(I)I"⟩, 18) := ⟨⟨by decide +kernel, by decide +kernel⟩, List.mem_of_getElem? (i := 9) (by decide +kernel), List.mem_of_getElem? (i := 195) (by decide +kernel), List.mem_of_getElem? (i := 196) (by decide +kernel)⟩
theorem lw_p8 : lw_okq (⟨"DykeFarms", "isFarm", "(I)Z"⟩, 18) := ⟨⟨by decide +kernel, by decide +kernel⟩, List.mem_of_getElem? (i := 9) (by decide +kernel), List.mem_of_getElem? (i := 204) (by decide +kernel), List.mem_of_getElem? (i := 205) (by decide +kernel)⟩
theorem lw_p9 : lw_okq (⟨"DykeFarms", "strengthAt", "(II)I"⟩, 18) := ⟨⟨by decide +kernel, by decide +kernel⟩, List.mem_of_getElem? (i := 9) (by decide +kernel), List.mem_of_getElem? (i := 208) (by decide +kernel), List.mem_of_getElem? (i := 209) (by decide +kernel)⟩
theorem lw_p10 : lw_okq (⟨"DykeFarms", "remember", "()V"⟩, 18) := ⟨⟨by decide +kernel, by decide +kernel⟩, List.mem_of_getElem? (i := 9) (by decide +kernel), List.mem_of_getElem? (i := 223) (by decide +kernel), List.mem_of_getElem? (i := 224) (by decide +kernel)⟩
theorem lw_p11 : lw_okq (⟨"DykeFarms", "actRow", "(I)I"⟩, 18) := ⟨⟨by decide +kernel, by decide +kernel⟩, List.mem_of_getElem? (i := 9) (by decide +kernel), List.mem_of_getElem? (i := 227) (by decide +kernel), List.mem_of_getElem? (i := 228) (by decide +kernel)⟩
theorem lw_p12 : lw_okq (⟨"DykeFarms$Held", "takeOver", "(LDykeFarms$Held;)V"⟩, 7) := ⟨⟨by decide +kernel, by decide +kernel⟩, List.mem_of_getElem? (i := 33) (by decide +kernel), List.mem_of_getElem? (i := 231) (by decide +kernel), List.mem_of_getElem? (i := 232) (by decide +kernel)⟩
theorem lw_p13 : lw_okq (⟨"DykeFarms", "strike", "([II)I"⟩, 18) := ⟨⟨by decide +kernel, by decide +kernel⟩, List.mem_of_getElem? (i := 9) (by decide +kernel), List.mem_of_getElem? (i := 238) (by decide +kernel), List.mem_of_getElem? (i := 239) (by decide +kernel)⟩
theorem lw_p14 : lw_okq (⟨"DykeFarms", "heightBehind", "(III)I"⟩, 18) := ⟨⟨by decide +kernel, by decide +kernel⟩, List.mem_of_getElem? (i := 9) (by decide +kernel), List.mem_of_getElem? (i := 242) (by decide +kernel), List.mem_of_getElem? (i := 243) (by decide +kernel)⟩
theorem lw_p15 : lw_okq (⟨"DykeFarms", "wetBy", "(I)I"⟩, 18) := ⟨⟨by decide +kernel, by decide +kernel⟩, List.mem_of_getElem? (i := 9) (by decide +kernel), List.mem_of_getElem? (i := 249) (by decide +kernel), List.mem_of_getElem? (i := 250) (by decide +kernel)⟩
def lw_privs_1 : List (MethodName × Nat) := [(⟨"DykeFarms$Script", "firstFault", "()I"⟩, 2), (⟨"DykeFarms$Script", "letterAt", "(I)I"⟩, 2), (⟨"DykeFarms$Script", "rightFigures", "(I)I"⟩, 2), (⟨"DykeFarms$Script", "figureAt", "(I)I"⟩, 2), (⟨"DykeFarms$Held", "clear", "()V"⟩, 7), (⟨"DykeFarms", "settleFarm", "(I)V"⟩, 18), (⟨"DykeFarms", "everyFarm", "()I"⟩, 18), (⟨"DykeFarms", "clayOf", "(I)I"⟩, 18), (⟨"DykeFarms", "isFarm", "(I)Z"⟩, 18), (⟨"DykeFarms", "strengthAt", "(II)I"⟩, 18), (⟨"DykeFarms", "remember", "()V"⟩, 18), (⟨"DykeFarms", "actRow", "(I)I"⟩, 18), (⟨"DykeFarms$Held", "takeOver", "(LDykeFarms$Held;)V"⟩, 7), (⟨"DykeFarms", "strike", "([II)I"⟩, 18), (⟨"DykeFarms", "heightBehind", "(III)I"⟩, 18), (⟨"DykeFarms", "wetBy", "(I)I"⟩, 18)]
theorem lw_r1 : ∀ q ∈ lw_privs_1, lw_okq q := List.forall_mem_cons.mpr ⟨lw_p0, List.forall_mem_cons.mpr ⟨lw_p1, List.forall_mem_cons.mpr ⟨lw_p2, List.forall_mem_cons.mpr ⟨lw_p3, List.forall_mem_cons.mpr ⟨lw_p4, List.forall_mem_cons.mpr ⟨lw_p5, List.forall_mem_cons.mpr ⟨lw_p6, List.forall_mem_cons.mpr ⟨lw_p7, List.forall_mem_cons.mpr ⟨lw_p8, List.forall_mem_cons.mpr ⟨lw_p9, List.forall_mem_cons.mpr ⟨lw_p10, List.forall_mem_cons.mpr ⟨lw_p11, List.forall_mem_cons.mpr ⟨lw_p12, List.forall_mem_cons.mpr ⟨lw_p13, List.forall_mem_cons.mpr ⟨lw_p14, List.forall_mem_cons.mpr ⟨lw_p15, fun _ h => absurd h List.not_mem_nil⟩⟩⟩⟩⟩⟩⟩⟩⟩⟩⟩⟩⟩⟩⟩⟩
theorem lw_p16 : lw_okq (⟨"DykeFarms", "worthOf", "(I)I"⟩, 18) := ⟨⟨by decide +kernel, by decide +kernel⟩, List.mem_of_getElem? (i := 9) (by decide +kernel), List.mem_of_getElem? (i := 253) (by decide +kernel), List.mem_of_getElem? (i := 254) (by decide +kernel)⟩
theorem lw_p17 : lw_okq (⟨"DykeFarms", "brokenBy", "(I)I"⟩, 18) := ⟨⟨by decide +kernel, by decide +kernel⟩, List.mem_of_getElem? (i := 9) (by decide +kernel), List.mem_of_getElem? (i := 285) (by decide +kernel), List.mem_of_getElem? (i := 286) (by decide +kernel)⟩
theorem lw_p18 : lw_okq (⟨"DykeFarms", "lackOf", "(II)I"⟩, 18) := ⟨⟨by decide +kernel, by decide +kernel⟩, List.mem_of_getElem? (i := 9) (by decide +kernel), List.mem_of_getElem? (i := 301) (by decide +kernel), List.mem_of_getElem? (i := 302) (by decide +kernel)⟩
theorem lw_p19 : lw_okq (⟨"DykeFarms", "reckonSets", "(I)V"⟩, 18) := ⟨⟨by decide +kernel, by decide +kernel⟩, List.mem_of_getElem? (i := 9) (by decide +kernel), List.mem_of_getElem? (i := 309) (by decide +kernel), List.mem_of_getElem? (i := 310) (by decide +kernel)⟩
theorem lw_p20 : lw_okq (⟨"DykeFarms", "bestSet", "(I)I"⟩, 18) := ⟨⟨by decide +kernel, by decide +kernel⟩, List.mem_of_getElem? (i := 9) (by decide +kernel), List.mem_of_getElem? (i := 314) (by decide +kernel), List.mem_of_getElem? (i := 315) (by decide +kernel)⟩
theorem lw_p21 : lw_okq (⟨"DykeFarms", "isBetter", "(II)Z"⟩, 18) := ⟨⟨by decide +kernel, by decide +kernel⟩, List.mem_of_getElem? (i := 9) (by decide +kernel), List.mem_of_getElem? (i := 318) (by decide +kernel), List.mem_of_getElem? (i := 319) (by decide +kernel)⟩
theorem lw_p22 : lw_okq (⟨"DykeFarms", "readStorms", "(IJ)Z"⟩, 18) := ⟨⟨by decide +kernel, by decide +kernel⟩, List.mem_of_getElem? (i := 9) (by decide +kernel), List.mem_of_getElem? (i := 330) (by decide +kernel), List.mem_of_getElem? (i := 331) (by decide +kernel)⟩
theorem lw_p23 : lw_okq (⟨"DykeFarms", "netOf", "(I)I"⟩, 18) := ⟨⟨by decide +kernel, by decide +kernel⟩, List.mem_of_getElem? (i := 9) (by decide +kernel), List.mem_of_getElem? (i := 344) (by decide +kernel), List.mem_of_getElem? (i := 345) (by decide +kernel)⟩
theorem lw_p24 : lw_okq (⟨"DykeFarms", "mostCuts", "(I)I"⟩, 18) := ⟨⟨by decide +kernel, by decide +kernel⟩, List.mem_of_getElem? (i := 9) (by decide +kernel), List.mem_of_getElem? (i := 353) (by decide +kernel), List.mem_of_getElem? (i := 354) (by decide +kernel)⟩
theorem lw_p25 : lw_okq (⟨"DykeFarms", "reckonGiven", "(II)V"⟩, 18) := ⟨⟨by decide +kernel, by decide +kernel⟩, List.mem_of_getElem? (i := 9) (by decide +kernel), List.mem_of_getElem? (i := 373) (by decide +kernel), List.mem_of_getElem? (i := 374) (by decide +kernel)⟩
theorem lw_p26 : lw_okq (⟨"DykeFarms", "isContent", "(III)Z"⟩, 18) := ⟨⟨by decide +kernel, by decide +kernel⟩, List.mem_of_getElem? (i := 9) (by decide +kernel), List.mem_of_getElem? (i := 377) (by decide +kernel), List.mem_of_getElem? (i := 378) (by decide +kernel)⟩
theorem lw_p27 : lw_okq (⟨"DykeFarms", "leftOver", "(III)I"⟩, 18) := ⟨⟨by decide +kernel, by decide +kernel⟩, List.mem_of_getElem? (i := 9) (by decide +kernel), List.mem_of_getElem? (i := 381) (by decide +kernel), List.mem_of_getElem? (i := 382) (by decide +kernel)⟩
theorem lw_p28 : lw_okq (⟨"DykeFarms", "holdsThrough", "(IIII)Z"⟩, 18) := ⟨⟨by decide +kernel, by decide +kernel⟩, List.mem_of_getElem? (i := 9) (by decide +kernel), List.mem_of_getElem? (i := 389) (by decide +kernel), List.mem_of_getElem? (i := 390) (by decide +kernel)⟩
theorem lw_p29 : lw_okq (⟨"DykeFarmsModel", "readDyke", "()I"⟩, 24) := ⟨⟨by decide +kernel, by decide +kernel⟩, List.mem_of_getElem? (i := 415) (by decide +kernel), List.mem_of_getElem? (i := 511) (by decide +kernel), List.mem_of_getElem? (i := 512) (by decide +kernel)⟩
theorem lw_p30 : lw_okq (⟨"DykeFarmsModel", "readPart", "()Z"⟩, 24) := ⟨⟨by decide +kernel, by decide +kernel⟩, List.mem_of_getElem? (i := 415) (by decide +kernel), List.mem_of_getElem? (i := 515) (by decide +kernel), List.mem_of_getElem? (i := 516) (by decide +kernel)⟩
theorem lw_p31 : lw_okq (⟨"DykeFarmsModel", "readFarm", "()Z"⟩, 24) := ⟨⟨by decide +kernel, by decide +kernel⟩, List.mem_of_getElem? (i := 415) (by decide +kernel), List.mem_of_getElem? (i := 519) (by decide +kernel), List.mem_of_getElem? (i := 520) (by decide +kernel)⟩
def lw_privs_2 : List (MethodName × Nat) := [(⟨"DykeFarms", "worthOf", "(I)I"⟩, 18), (⟨"DykeFarms", "brokenBy", "(I)I"⟩, 18), (⟨"DykeFarms", "lackOf", "(II)I"⟩, 18), (⟨"DykeFarms", "reckonSets", "(I)V"⟩, 18), (⟨"DykeFarms", "bestSet", "(I)I"⟩, 18), (⟨"DykeFarms", "isBetter", "(II)Z"⟩, 18), (⟨"DykeFarms", "readStorms", "(IJ)Z"⟩, 18), (⟨"DykeFarms", "netOf", "(I)I"⟩, 18), (⟨"DykeFarms", "mostCuts", "(I)I"⟩, 18), (⟨"DykeFarms", "reckonGiven", "(II)V"⟩, 18), (⟨"DykeFarms", "isContent", "(III)Z"⟩, 18), (⟨"DykeFarms", "leftOver", "(III)I"⟩, 18), (⟨"DykeFarms", "holdsThrough", "(IIII)Z"⟩, 18), (⟨"DykeFarmsModel", "readDyke", "()I"⟩, 24), (⟨"DykeFarmsModel", "readPart", "()Z"⟩, 24), (⟨"DykeFarmsModel", "readFarm", "()Z"⟩, 24)]
theorem lw_r2 : ∀ q ∈ lw_privs_2, lw_okq q := List.forall_mem_cons.mpr ⟨lw_p16, List.forall_mem_cons.mpr ⟨lw_p17, List.forall_mem_cons.mpr ⟨lw_p18, List.forall_mem_cons.mpr ⟨lw_p19, List.forall_mem_cons.mpr ⟨lw_p20, List.forall_mem_cons.mpr ⟨lw_p21, List.forall_mem_cons.mpr ⟨lw_p22, List.forall_mem_cons.mpr ⟨lw_p23, List.forall_mem_cons.mpr ⟨lw_p24, List.forall_mem_cons.mpr ⟨lw_p25, List.forall_mem_cons.mpr ⟨lw_p26, List.forall_mem_cons.mpr ⟨lw_p27, List.forall_mem_cons.mpr ⟨lw_p28, List.forall_mem_cons.mpr ⟨lw_p29, List.forall_mem_cons.mpr ⟨lw_p30, List.forall_mem_cons.mpr ⟨lw_p31, fun _ h => absurd h List.not_mem_nil⟩⟩⟩⟩⟩⟩⟩⟩⟩⟩⟩⟩⟩⟩⟩⟩
theorem lw_p32 : lw_okq (⟨"DykeFarmsModel", "figure", "(II)I"⟩, 24) := ⟨⟨by decide +kernel, by decide +kernel⟩, List.mem_of_getElem? (i := 415) (by decide +kernel), List.mem_of_getElem? (i := 523) (by decide +kernel), List.mem_of_getElem? (i := 524) (by decide +kernel)⟩
theorem lw_p33 : lw_okq (⟨"DykeFarmsModel", "canDam", "()Z"⟩, 24) := ⟨⟨by decide +kernel, by decide +kernel⟩, List.mem_of_getElem? (i := 415) (by decide +kernel), List.mem_of_getElem? (i := 527) (by decide +kernel), List.mem_of_getElem? (i := 528) (by decide +kernel)⟩
theorem lw_p34 : lw_okq (⟨"DykeFarmsModel", "readDam", "()Z"⟩, 24) := ⟨⟨by decide +kernel, by decide +kernel⟩, List.mem_of_getElem? (i := 415) (by decide +kernel), List.mem_of_getElem? (i := 531) (by decide +kernel), List.mem_of_getElem? (i := 532) (by decide +kernel)⟩
theorem lw_p35 : lw_okq (⟨"DykeFarmsModel", "everyone", "()I"⟩, 24) := ⟨⟨by decide +kernel, by decide +kernel⟩, List.mem_of_getElem? (i := 415) (by decide +kernel), List.mem_of_getElem? (i := 546) (by decide +kernel), List.mem_of_getElem? (i := 547) (by decide +kernel)⟩
theorem lw_p36 : lw_okq (⟨"DykeFarmsModel", "clayOf", "(I)I"⟩, 24) := ⟨⟨by decide +kernel, by decide +kernel⟩, List.mem_of_getElem? (i := 415) (by decide +kernel), List.mem_of_getElem? (i := 550) (by decide +kernel), List.mem_of_getElem? (i := 551) (by decide +kernel)⟩
theorem lw_p37 : lw_okq (⟨"DykeFarmsModel", "noFarm", "(I)Z"⟩, 24) := ⟨⟨by decide +kernel, by decide +kernel⟩, List.mem_of_getElem? (i := 415) (by decide +kernel), List.mem_of_getElem? (i := 558) (by decide +kernel), List.mem_of_getElem? (i := 559) (by decide +kernel)⟩
theorem lw_p38 : lw_okq (⟨"DykeFarmsModel", "strength", "([II)I"⟩, 24) := ⟨⟨by decide +kernel, by decide +kernel⟩, List.mem_of_getElem? (i := 415) (by decide +kernel), List.mem_of_getElem? (i := 562) (by decide +kernel), List.mem_of_getElem? (i := 563) (by decide +kernel)⟩
theorem lw_p39 : lw_okq (⟨"DykeFarmsModel", "note", "()V"⟩, 24) := ⟨⟨by decide +kernel, by decide +kernel⟩, List.mem_of_getElem? (i := 415) (by decide +kernel), List.mem_of_getElem? (i := 578) (by decide +kernel), List.mem_of_getElem? (i := 579) (by decide +kernel)⟩
theorem lw_p40 : lw_okq (⟨"DykeFarmsModel", "goStorm", "([II)I"⟩, 24) := ⟨⟨by decide +kernel, by decide +kernel⟩, List.mem_of_getElem? (i := 415) (by decide +kernel), List.mem_of_getElem? (i := 582) (by decide +kernel), List.mem_of_getElem? (i := 583) (by decide +kernel)⟩
theorem lw_p41 : lw_okq (⟨"DykeFarmsModel", "breaksBy", "([II)I"⟩, 24) := ⟨⟨by decide +kernel, by decide +kernel⟩, List.mem_of_getElem? (i := 415) (by decide +kernel), List.mem_of_getElem? (i := 586) (by decide +kernel), List.mem_of_getElem? (i := 587) (by decide +kernel)⟩
theorem lw_p42 : lw_okq (⟨"DykeFarmsModel", "drownsBy", "([II)I"⟩, 24) := ⟨⟨by decide +kernel, by decide +kernel⟩, List.mem_of_getElem? (i := 415) (by decide +kernel), List.mem_of_getElem? (i := 590) (by decide +kernel), List.mem_of_getElem? (i := 591) (by decide +kernel)⟩
theorem lw_p43 : lw_okq (⟨"DykeFarmsModel", "worthOf", "(I)I"⟩, 24) := ⟨⟨by decide +kernel, by decide +kernel⟩, List.mem_of_getElem? (i := 415) (by decide +kernel), List.mem_of_getElem? (i := 594) (by decide +kernel), List.mem_of_getElem? (i := 595) (by decide +kernel)⟩
theorem lw_p44 : lw_okq (⟨"DykeFarmsModel", "clayFor", "(II)I"⟩, 24) := ⟨⟨by decide +kernel, by decide +kernel⟩, List.mem_of_getElem? (i := 415) (by decide +kernel), List.mem_of_getElem? (i := 638) (by decide +kernel), List.mem_of_getElem? (i := 639) (by decide +kernel)⟩
theorem lw_p45 : lw_okq (⟨"DykeFarmsModel", "findPlacing", "(II)V"⟩, 24) := ⟨⟨by decide +kernel, by decide +kernel⟩, List.mem_of_getElem? (i := 415) (by decide +kernel), List.mem_of_getElem? (i := 647) (by decide +kernel), List.mem_of_getElem? (i := 648) (by decide +kernel)⟩
theorem lw_p46 : lw_okq (⟨"DykeFarmsModel", "begin", "()V"⟩, 24) := ⟨⟨by decide +kernel, by decide +kernel⟩, List.mem_of_getElem? (i := 415) (by decide +kernel), List.mem_of_getElem? (i := 671) (by decide +kernel), List.mem_of_getElem? (i := 672) (by decide +kernel)⟩
theorem lw_p47 : lw_okq (⟨"DykeFarmsModel", "netOf", "(I)I"⟩, 24) := ⟨⟨by decide +kernel, by decide +kernel⟩, List.mem_of_getElem? (i := 415) (by decide +kernel), List.mem_of_getElem? (i := 683) (by decide +kernel), List.mem_of_getElem? (i := 684) (by decide +kernel)⟩
def lw_privs_3 : List (MethodName × Nat) := [(⟨"DykeFarmsModel", "figure", "(II)I"⟩, 24), (⟨"DykeFarmsModel", "canDam", "()Z"⟩, 24), (⟨"DykeFarmsModel", "readDam", "()Z"⟩, 24), (⟨"DykeFarmsModel", "everyone", "()I"⟩, 24), (⟨"DykeFarmsModel", "clayOf", "(I)I"⟩, 24), (⟨"DykeFarmsModel", "noFarm", "(I)Z"⟩, 24), (⟨"DykeFarmsModel", "strength", "([II)I"⟩, 24), (⟨"DykeFarmsModel", "note", "()V"⟩, 24), (⟨"DykeFarmsModel", "goStorm", "([II)I"⟩, 24), (⟨"DykeFarmsModel", "breaksBy", "([II)I"⟩, 24), (⟨"DykeFarmsModel", "drownsBy", "([II)I"⟩, 24), (⟨"DykeFarmsModel", "worthOf", "(I)I"⟩, 24), (⟨"DykeFarmsModel", "clayFor", "(II)I"⟩, 24), (⟨"DykeFarmsModel", "findPlacing", "(II)V"⟩, 24), (⟨"DykeFarmsModel", "begin", "()V"⟩, 24), (⟨"DykeFarmsModel", "netOf", "(I)I"⟩, 24)]
theorem lw_r3 : ∀ q ∈ lw_privs_3, lw_okq q := List.forall_mem_cons.mpr ⟨lw_p32, List.forall_mem_cons.mpr ⟨lw_p33, List.forall_mem_cons.mpr ⟨lw_p34, List.forall_mem_cons.mpr ⟨lw_p35, List.forall_mem_cons.mpr ⟨lw_p36, List.forall_mem_cons.mpr ⟨lw_p37, List.forall_mem_cons.mpr ⟨lw_p38, List.forall_mem_cons.mpr ⟨lw_p39, List.forall_mem_cons.mpr ⟨lw_p40, List.forall_mem_cons.mpr ⟨lw_p41, List.forall_mem_cons.mpr ⟨lw_p42, List.forall_mem_cons.mpr ⟨lw_p43, List.forall_mem_cons.mpr ⟨lw_p44, List.forall_mem_cons.mpr ⟨lw_p45, List.forall_mem_cons.mpr ⟨lw_p46, List.forall_mem_cons.mpr ⟨lw_p47, fun _ h => absurd h List.not_mem_nil⟩⟩⟩⟩⟩⟩⟩⟩⟩⟩⟩⟩⟩⟩⟩⟩
theorem lw_p48 : lw_okq (⟨"DykeFarmsModel", "sumOf", "(I)I"⟩, 24) := ⟨⟨by decide +kernel, by decide +kernel⟩, List.mem_of_getElem? (i := 415) (by decide +kernel), List.mem_of_getElem? (i := 691) (by decide +kernel), List.mem_of_getElem? (i := 692) (by decide +kernel)⟩
theorem lw_p49 : lw_okq (⟨"DykeFarmsModel", "findRests", "(IIII)V"⟩, 24) := ⟨⟨by decide +kernel, by decide +kernel⟩, List.mem_of_getElem? (i := 415) (by decide +kernel), List.mem_of_getElem? (i := 715) (by decide +kernel), List.mem_of_getElem? (i := 716) (by decide +kernel)⟩
theorem lw_p50 : lw_okq (⟨"DykeFarmsModel", "gainOf", "(IIIII)I"⟩, 24) := ⟨⟨by decide +kernel, by decide +kernel⟩, List.mem_of_getElem? (i := 415) (by decide +kernel), List.mem_of_getElem? (i := 719) (by decide +kernel), List.mem_of_getElem? (i := 720) (by decide +kernel)⟩
def lw_privs_4 : List (MethodName × Nat) := [(⟨"DykeFarmsModel", "sumOf", "(I)I"⟩, 24), (⟨"DykeFarmsModel", "findRests", "(IIII)V"⟩, 24), (⟨"DykeFarmsModel", "gainOf", "(IIIII)I"⟩, 24)]
theorem lw_r4 : ∀ q ∈ lw_privs_4, lw_okq q := List.forall_mem_cons.mpr ⟨lw_p48, List.forall_mem_cons.mpr ⟨lw_p49, List.forall_mem_cons.mpr ⟨lw_p50, fun _ h => absurd h List.not_mem_nil⟩⟩⟩
def lw_privs : List (MethodName × Nat) := lw_privs_1 ++ (lw_privs_2 ++ (lw_privs_3 ++ (lw_privs_4)))
def lw_tbl : List Cond := k2_sels lw_privs ++ tables_1
theorem lw_privs_ok : ∀ q ∈ lw_privs, lw_okq q := by
  show ∀ q ∈ lw_privs_1 ++ (lw_privs_2 ++ (lw_privs_3 ++ (lw_privs_4))), lw_okq q
  exact List.forall_mem_append.mpr ⟨lw_r1, List.forall_mem_append.mpr ⟨lw_r2, List.forall_mem_append.mpr ⟨lw_r3, lw_r4⟩⟩⟩
end
section
/-- the words that hold at every call -/
def g_nest : Cond → Bool
  | .fieldLinkNest .. => true
  | .methodLinkNest .. => true
  | _ => false
def g_usable (w : Cond) : Bool := goodWord w || g_nest w
def lw_use : List Cond := lw_tbl.filter g_usable
theorem g_use {w : Cond} (h : w ∈ lw_tbl) (hg : g_usable w = true) : w ∈ lw_use := List.mem_filter.mpr ⟨h, hg⟩
/-! The world of this claim: the class, its parts and the reference, their cells numbered once for all; the judgement JW (the machine comes from here to the end that the context wants), and a row for each instruction. -/
def R_D : String := "DykeFarms"
def T_D : u_T := fun k => match k with
  | 0 => ("DykeFarms", "script", "LDykeFarms$Script;", true)
  | 1 => ("DykeFarms", "farms", "I", false)
  | 2 => ("DykeFarms", "grass", "[I", true)
  | 3 => ("DykeFarms", "worth", "[I", true)
  | 4 => ("DykeFarms", "kind", "[I", true)
  | 5 => ("DykeFarms", "now", "LDykeFarms$Held;", true)
  | 6 => ("DykeFarms", "past", "[LDykeFarms$Held;", true)
  | 7 => ("DykeFarms", "firstAct", "I", false)
  | 8 => ("DykeFarms", "acts", "I", false)
  | 9 => ("DykeFarms", "slots", "[LDykeFarms$Held;", true)
  | 10 => ("DykeFarms", "kept", "I", false)
  | 11 => ("DykeFarms", "theSeed", "J", false)
  | 12 => ("DykeFarms", "tried", "[I", true)
  | 13 => ("DykeFarms", "stormRow", "[I", true)
  | 14 => ("DykeFarms", "wetByGiven", "[I", true)
  | 15 => ("DykeFarms", "lossWith", "[I", true)
  | 16 => ("DykeFarms", "clayFor", "[I", true)
  | _ => ("DykeFarms", "bySet", "[I", true)
def ty_D : Nat → FieldType := fun k => match k with
  | 0 => (.object "DykeFarms$Script")
  | 1 => .int
  | 2 => (.array .int)
  | 3 => (.array .int)
  | 4 => (.array .int)
  | 5 => (.object "DykeFarms$Held")
  | 6 => (.array (.object "DykeFarms$Held"))
  | 7 => .int
  | 8 => .int
  | 9 => (.array (.object "DykeFarms$Held"))
  | 10 => .int
  | 11 => .long
  | 12 => (.array .int)
  | 13 => (.array .int)
  | 14 => (.array .int)
  | 15 => (.array .int)
  | 16 => (.array .int)
  | _ => (.array .int)
theorem nm_D : ∀ a, a < 18 → ∀ b, b < 18 → a ≠ b → (T_D a).2.1 ≠ (T_D b).2.1 := by decide +kernel
theorem ty_D_ok : ∀ k, k < 18 → parseFieldDescriptor (T_D k).2.2.1 = some (ty_D k) := by decide +kernel
theorem in_D : ∀ w ∈ u_ws R_D T_D 18, w ∈ lw_use := by decide +kernel
def R_S : String := "DykeFarms$Script"
def T_S : u_T := fun k => match k with
  | 0 => ("DykeFarms$Script", "letters", "[I", true)
  | _ => ("DykeFarms$Script", "length", "I", false)
def ty_S : Nat → FieldType := fun k => match k with
  | 0 => (.array .int)
  | _ => .int
theorem nm_S : ∀ a, a < 2 → ∀ b, b < 2 → a ≠ b → (T_S a).2.1 ≠ (T_S b).2.1 := by decide +kernel
theorem ty_S_ok : ∀ k, k < 2 → parseFieldDescriptor (T_S k).2.2.1 = some (ty_S k) := by decide +kernel
theorem in_S : ∀ w ∈ u_ws R_S T_S 2, w ∈ lw_use := by decide +kernel
def R_H : String := "DykeFarms$Held"
def T_H : u_T := fun k => match k with
  | 0 => ("DykeFarms$Held", "high", "[I", true)
  | 1 => ("DykeFarms$Held", "clay", "[I", true)
  | 2 => ("DykeFarms$Held", "keeper", "[I", true)
  | 3 => ("DykeFarms$Held", "owed", "[[I", true)
  | 4 => ("DykeFarms$Held", "spades", "I", false)
  | 5 => ("DykeFarms$Held", "dams", "I", false)
  | _ => ("DykeFarms$Held", "tide", "I", false)
def ty_H : Nat → FieldType := fun k => match k with
  | 0 => (.array .int)
  | 1 => (.array .int)
  | 2 => (.array .int)
  | 3 => (.array (.array .int))
  | 4 => .int
  | 5 => .int
  | _ => .int
theorem nm_H : ∀ a, a < 7 → ∀ b, b < 7 → a ≠ b → (T_H a).2.1 ≠ (T_H b).2.1 := by decide +kernel
theorem ty_H_ok : ∀ k, k < 7 → parseFieldDescriptor (T_H k).2.2.1 = some (ty_H k) := by decide +kernel
theorem in_H : ∀ w ∈ u_ws R_H T_H 7, w ∈ lw_use := by decide +kernel
def R_M : String := "DykeFarmsModel"
def T_M : u_T := fun k => match k with
  | 0 => ("DykeFarmsModel", "thrown", "I", false)
  | 1 => ("DykeFarmsModel", "text", "[I", true)
  | 2 => ("DykeFarmsModel", "textSize", "I", false)
  | 3 => ("DykeFarmsModel", "place", "I", false)
  | 4 => ("DykeFarmsModel", "farms", "I", false)
  | 5 => ("DykeFarmsModel", "grass", "[I", true)
  | 6 => ("DykeFarmsModel", "worth", "[I", true)
  | 7 => ("DykeFarmsModel", "kind", "[I", true)
  | 8 => ("DykeFarmsModel", "readFarms", "I", false)
  | 9 => ("DykeFarmsModel", "readDams", "I", false)
  | 10 => ("DykeFarmsModel", "readFarm", "[I", true)
  | 11 => ("DykeFarmsModel", "page", "[I", true)
  | 12 => ("DykeFarmsModel", "trial", "[I", true)
  | 13 => ("DykeFarmsModel", "book", "[I", true)
  | 14 => ("DykeFarmsModel", "acts", "I", false)
  | 15 => ("DykeFarmsModel", "kept", "[I", true)
  | 16 => ("DykeFarmsModel", "isKept", "[Z", true)
  | 17 => ("DykeFarmsModel", "seed", "J", false)
  | 18 => ("DykeFarmsModel", "placeLoss", "I", false)
  | 19 => ("DykeFarmsModel", "placeHolds", "I", false)
  | 20 => ("DykeFarmsModel", "value", "[I", true)
  | 21 => ("DykeFarmsModel", "cuts", "[I", true)
  | 22 => ("DykeFarmsModel", "restMany", "I", false)
  | _ => ("DykeFarmsModel", "restFirst", "I", false)
def ty_M : Nat → FieldType := fun k => match k with
  | 0 => .int
  | 1 => (.array .int)
  | 2 => .int
  | 3 => .int
  | 4 => .int
  | 5 => (.array .int)
  | 6 => (.array .int)
  | 7 => (.array .int)
  | 8 => .int
  | 9 => .int
  | 10 => (.array .int)
  | 11 => (.array .int)
  | 12 => (.array .int)
  | 13 => (.array .int)
  | 14 => .int
  | 15 => (.array .int)
  | 16 => (.array .boolean)
  | 17 => .long
  | 18 => .int
  | 19 => .int
  | 20 => (.array .int)
  | 21 => (.array .int)
  | 22 => .int
  | _ => .int
theorem nm_M : ∀ a, a < 24 → ∀ b, b < 24 → a ≠ b → (T_M a).2.1 ≠ (T_M b).2.1 := by decide +kernel
theorem ty_M_ok : ∀ k, k < 24 → parseFieldDescriptor (T_M k).2.2.1 = some (ty_M k) := by decide +kernel
theorem in_M : ∀ w ∈ u_ws R_M T_M 24, w ∈ lw_use := by decide +kernel
abbrev g_cl : List vw_C := [(R_D, T_D, 18), (R_S, T_S, 2), (R_H, T_H, 7), (R_M, T_M, 24)]
/-- what the cells hold: ints as nI of numbers (a negative one is 2^32 less something) -/
abbrev g_V : Type := Nat → Nat → Nat
abbrev g_L : Type := Nat → Int64
abbrev g_G : Type := va_G × (ClassId × ClassId × ClassId × ClassId) × (Nat → Nat) × (Nat × Nat)
def g_up (V : g_V) (c k : Nat) (x : Nat) : g_V := fun c' k' => if c' = c ∧ k' = k then x else V c' k'
def g_upL (S : g_L) (c : Nat) (x : Int64) : g_L := fun c' => if c' = c then x else S c'
def g_a (G : g_G) (c : Nat) : Nat := G.2.2.1 c
/-- the cell of the j-th Held: now 0, past 1 .. 14, slots 15, 16; its arrays behind it: high, clay, keeper, owed, the six rows -/
def hB (j : Nat) : Nat := 11 * j + 14
def g_int (G : g_G) (n : Nat) (f : Nat → Nat) : va_E := .inl (G.2.1.1, n, .inl (fun k => nI (f k)))
def g_held (G : g_G) (f : Nat → Nat) (b : Nat) : Nat → va_E
  | 0 => .inr (2, [.ref (g_a G (b + 1)), .ref (g_a G (b + 2)), .ref (g_a G (b + 3)), .ref (g_a G (b + 4)), .int (nI (f 4)), .int (nI (f 5)), .int (nI (f 6))])
  | 4 => .inl (G.2.1.2.2.2, 6, .inr (.inr (.inr (.inr (fun k => some (g_a G (b + (5 + k))))))))
  | _ => g_int G 6 f
def g_mod (G : g_G) (f : Nat → Nat) (z : Int64) : Nat → va_E
  | 0 => .inr (3, [.int (nI (f 0)), .ref (g_a G 202), .int (nI (f 2)), .int (nI (f 3)), .int (nI (f 4)), .ref (g_a G 203), .ref (g_a G 204), .ref (g_a G 205), .int (nI (f 8)), .int (nI (f 9)), .ref (g_a G 206), .ref (g_a G 207), .ref (g_a G 208), .ref (g_a G 209), .int (nI (f 14)), .ref (g_a G 210), .ref (g_a G 211), .long z, .int (nI (f 18)), .int (nI (f 19)), .ref (g_a G 212), .ref (g_a G 213), .int (nI (f 22)), .int (nI (f 23))])
  | 1 => g_int G 48 f
  | 2 => g_int G 6 f
  | 3 => g_int G 6 f
  | 4 => g_int G 6 f
  | 5 => g_int G 30 f
  | 6 => g_int G 57 f
  | 7 => g_int G 57 f
  | 8 => g_int G 798 f
  | 9 => g_int G 114 f
  | 10 => .inl (G.2.1.2.1, 2, .inl (fun k => nI (f k)))
  | 11 => g_int G 64 f
  | _ => g_int G 64 f
def g_E (G : g_G) (f : Nat → Nat) (z : Int64) : Nat → va_E
  | 0 => .inr (0, [.ref (g_a G 1), .int (nI (f 1)), .ref (g_a G 3), .ref (g_a G 4), .ref (g_a G 5), .ref (g_a G (hB 0)), .ref (g_a G 6), .int (nI (f 7)), .int (nI (f 8)), .ref (g_a G 7), .int (nI (f 10)), .long z, .ref (g_a G 8), .ref (g_a G 9), .ref (g_a G 10), .ref (g_a G 11), .ref (g_a G 12), .ref (g_a G 13)])
  | 1 => .inr (1, [.ref (g_a G 2), .int (nI (f 1))])
  | 2 => g_int G 48 f
  | 3 => g_int G 6 f
  | 4 => g_int G 6 f
  | 5 => g_int G 6 f
  | 6 => .inl (G.2.1.2.2.1, 14, .inr (.inr (.inr (.inr (fun k => some (g_a G (hB (1 + k))))))))
  | 7 => .inl (G.2.1.2.2.1, 2, .inr (.inr (.inr (.inr (fun k => some (g_a G (hB (15 + k))))))))
  | 8 => g_int G 6 f
  | 9 => g_int G 5 f
  | 10 => g_int G 7 f
  | 11 => g_int G 64 f
  | 12 => g_int G 64 f
  | 13 => g_int G 64 f
  | n + 14 => if n < 187 then g_held G f (hB (n / 11)) (n % 11) else g_mod G f z (n - 187)
def g_N : Nat := 214
def g_W (G : g_G) (V : g_V) (S : g_L) : va_W := (List.range g_N).map (fun c => (g_a G c, g_E G (V c) (S c) c))
theorem g_W_get {G : g_G} {V : g_V} {S : g_L} {c : Nat} (h : c < g_N) : (g_W G V S)[c]? = some (g_a G c, g_E G (V c) (S c) c) := by
  simp [g_W, h]
theorem g_W_set {G : g_G} {V V' : g_V} {S S' : g_L} {c : Nat} {x : va_E} (hV : ∀ c', c' ≠ c → V' c' = V c' ∧ S' c' = S c') (he : x = g_E G (V' c) (S' c) c) : (g_W G V S).set c (g_a G c, x) = g_W G V' S' := by
  apply List.ext_getElem?
  intro i
  by_cases hi : i = c
  · subst hi
    by_cases hl : i < g_N
    · rw [List.getElem?_set_self (by simp [g_W]; exact hl), g_W_get hl, he]
    · rw [List.getElem?_eq_none (by simp [g_W]; omega), List.getElem?_eq_none (by simp [g_W]; omega)]
  · rw [List.getElem?_set_ne (Ne.symm hi)]
    by_cases hl : i < g_N
    · rw [g_W_get hl, g_W_get hl, (hV i hi).1, (hV i hi).2]
    · rw [List.getElem?_eq_none (by simp [g_W]; omega), List.getElem?_eq_none (by simp [g_W]; omega)]
theorem g_E_held {G : g_G} {f : Nat → Nat} {z : Int64} {j r : Nat} (hj : j < 17) (hr : r < 11) : g_E G f z (hB j + r) = g_held G f (hB j) r := by
  have e : hB j + r = (11 * j + r) + 14 := by unfold hB; omega
  rw [e]
  show (if 11 * j + r < 187 then g_held G f (hB ((11 * j + r) / 11)) ((11 * j + r) % 11) else g_mod G f z (11 * j + r - 187)) = _
  rw [if_pos (by omega), show (11 * j + r) / 11 = j by omega, show (11 * j + r) % 11 = r by omega]
theorem hB_lt {j r : Nat} (hj : j < 17) (hr : r < 11) : hB j + r < g_N := by unfold hB g_N; omega
def g_inj (G : g_G) : Prop := ∀ a b, a < g_N → b < g_N → g_a G a = g_a G b → a = b
def g_A (G : g_G) : Nat → Prop := fun q => ∃ c, c < g_N ∧ q = g_a G c
theorem g_D {G : g_G} {A : Nat → Prop} (hi : g_inj G) (hA : ∀ c, c < g_N → A (g_a G c)) (V : g_V) (S : g_L) : va_D A (g_W G V S) := by
  have hl : ∀ (i : Nat) (p : Nat × va_E), (g_W G V S)[i]? = some p → i < g_N ∧ p.1 = g_a G i := by
    intro i p h
    have h1 : i < g_N := by have := (List.getElem?_eq_some_iff.mp h).1; simpa [g_W] using this
    rw [g_W_get h1] at h
    cases h
    exact ⟨h1, rfl⟩
  refine ⟨fun i j p q h1 h2 e => ?_, fun k q h => ?_⟩
  · obtain ⟨a1, a2⟩ := hl i p h1
    obtain ⟨b1, b2⟩ := hl j q h2
    exact hi i j a1 b1 (by rw [← a2, ← b2]; exact e)
  · obtain ⟨a1, a2⟩ := hl k q h
    rw [a2]
    exact hA k a1
def g_tys (G : g_G) : List (ClassId × FieldType) := [(G.2.1.1, .int), (G.2.1.2.1, .boolean), (G.2.1.2.2.1, .object R_H), (G.2.1.2.2.2, .array .int)]
def g_great : Nat → Nat := fun k => if k = 1 ∨ k = 4 then 3 else 9
def g_ord : Nat → Nat | 0 => 1 | 1 => 1 | 2 => 2 | 3 => 6 | 4 => 24 | 5 => 120 | _ => 720
def g_St (G : g_G) (A : Nat → Prop) (U : State) (H : Heap) : Prop :=
  (va_Z R_D "GREATEST" "[I" (.ref G.2.2.2.1) A U H ∧ va_T .int G.2.2.2.1 5 (fun k => .int (nI (g_great k))) A U H) ∧
  (va_Z R_D "ORDERS" "[I" (.ref G.2.2.2.2) A U H ∧ va_T .int G.2.2.2.2 7 (fun k => .int (nI (g_ord k))) A U H)
theorem g_St.moved {G : g_G} {A : Nat → Prop} {u U : State} {H : Heap} (hvm : u.vm.Alike U.vm) (h : g_St G A u H) : g_St G A U H :=
  ⟨⟨h.1.1.moved hvm, h.1.2.moved hvm⟩, ⟨h.2.1.moved hvm, h.2.2.moved hvm⟩⟩
theorem g_St.kept {G : g_G} {A : Nat → Prop} {U : State} {H H1 : Heap} (h : g_St G A U H) (hq : ∀ a : Nat, a < H.size → ¬ A a → H1[a]? = H[a]?) : g_St G A U H1 :=
  ⟨⟨h.1.1.kept hq, h.1.2.kept hq⟩, ⟨h.2.1.kept hq, h.2.2.kept hq⟩⟩
theorem g_St.narrow {G : g_G} {A B : Nat → Prop} {U : State} {H : Heap} (h : g_St G A U H) (hq : ∀ q, B q → A q) : g_St G B U H :=
  ⟨⟨h.1.1.narrow hq, h.1.2.narrow hq⟩, ⟨h.2.1.narrow hq, h.2.2.narrow hq⟩⟩
/-- locals by their numbers -/
def g_ix : Nat → List (Option Value) → List (Nat × Value)
  | _, [] => []
  | i, none :: r => g_ix (i + 1) r
  | i, some v :: r => (i, v) :: g_ix (i + 1) r
theorem g_ix_mem : ∀ (lv : List (Option Value)) (i : Nat) (q : Nat × Value), q ∈ g_ix i lv ↔ ∃ k, q.1 = i + k ∧ lv[k]? = some (some q.2)
  | [], i, q => by simp [g_ix]
  | none :: r, i, q => by
    rw [show g_ix i (none :: r) = g_ix (i + 1) r from rfl, g_ix_mem r (i + 1) q]
    constructor
    · rintro ⟨k, h1, h2⟩
      exact ⟨k + 1, by omega, by rw [List.getElem?_cons_succ]; exact h2⟩
    · rintro ⟨k, h1, h2⟩
      cases k with
      | zero => rw [List.getElem?_cons_zero] at h2; cases h2
      | succ k => exact ⟨k, by omega, by rw [List.getElem?_cons_succ] at h2; exact h2⟩
  | some v :: r, i, q => by
    rw [show g_ix i (some v :: r) = (i, v) :: g_ix (i + 1) r from rfl, List.mem_cons, g_ix_mem r (i + 1) q]
    constructor
    · rintro (h | ⟨k, h1, h2⟩)
      · subst h; exact ⟨0, rfl, rfl⟩
      · exact ⟨k + 1, by omega, by rw [List.getElem?_cons_succ]; exact h2⟩
    · rintro ⟨k, h1, h2⟩
      cases k with
      | zero =>
        rw [List.getElem?_cons_zero] at h2
        refine Or.inl ?_
        obtain ⟨q1, q2⟩ := q
        simp only [Option.some.injEq] at h2
        simp only at h1
        rw [h1, h2]
        rfl
      | succ k => exact Or.inr ⟨k, by omega, by rw [List.getElem?_cons_succ] at h2; exact h2⟩
def g_lv (c : Code) (ls : Array Slot) (lv : List (Option Value)) : Prop := lv_has ls c.maxLocals (g_ix 0 lv) ∧ lv.length = c.maxLocals
theorem g_lv.at {c : Code} {ls : Array Slot} {lv : List (Option Value)} (h : g_lv c ls lv) {i : Nat} {v : Value} (hv : lv[i]? = some (some v)) : ls[i]? = some (.val v) :=
  h.1.2.2 (i, v) ((g_ix_mem lv 0 (i, v)).mpr ⟨i, by simp, hv⟩)
/-- local i becomes v: the local ahead of it is no long -/
def g_set (i : Nat) (v : Value) (lv lv' : List (Option Value)) : Prop := lv' = lv.set i (some v) ∧ i < lv.length ∧ ∀ (j : Nat) (w : Value), j + 1 = i → lv[j]? = some (some w) → ¬ w.category = 2
def g_set2 (i : Nat) (v : Value) (lv lv' : List (Option Value)) : Prop := lv' = (lv.set i (some v)).set (i + 1) none ∧ i + 1 < lv.length ∧ ∀ (j : Nat) (w : Value), j + 1 = i → lv[j]? = some (some w) → ¬ w.category = 2
theorem g_set.lt {c : Code} {ls : Array Slot} {i : Nat} {v : Value} {lv lv' : List (Option Value)} (h : g_set i v lv lv') (hl : g_lv c ls lv) : i < c.maxLocals := by rw [← hl.2]; exact h.2.1
theorem g_set.to {c : Code} {ls' : Array Slot} {i : Nat} {v : Value} {lv lv' : List (Option Value)} (h : g_set i v lv lv') (hn : lv.length = c.maxLocals) (h' : lv_has ls' c.maxLocals ((i, v) :: (g_ix 0 lv).filter (fun q => !(q.1 == i) && !(q.1 + 1 == i && q.2.category == 2)))) : g_lv c ls' lv' := by
  obtain ⟨e, hi, ho⟩ := h
  subst e
  refine ⟨⟨h'.1, h'.2.1, fun q hq => h'.2.2 q ?_⟩, by rw [List.length_set]; exact hn⟩
  obtain ⟨k, h1, h2⟩ := (g_ix_mem _ 0 q).mp hq
  have h1 : q.1 = k := by omega
  by_cases hk : k = i
  · subst hk
    rw [List.getElem?_set_self hi] at h2
    obtain ⟨q1, q2⟩ := q
    simp only [Option.some.injEq] at h2
    simp only at h1
    rw [h1, ← h2]
    exact List.mem_cons_self
  · rw [List.getElem?_set_ne (Ne.symm hk)] at h2
    refine List.mem_cons_of_mem _ (List.mem_filter.mpr ⟨(g_ix_mem lv 0 q).mpr ⟨k, by omega, h2⟩, ?_⟩)
    by_cases hj : k + 1 = i
    · have := ho k q.2 hj h2
      simp [h1, hk, this]
    · simp [h1, hk, hj]
theorem g_set2.to {c : Code} {ls' : Array Slot} {i : Nat} {v : Value} {lv lv' : List (Option Value)} (h : g_set2 i v lv lv') (hn : lv.length = c.maxLocals) (h' : lv_has ls' c.maxLocals ((i, v) :: (g_ix 0 lv).filter (fun q => !(q.1 == i) && (!(q.1 == i + 1) && !(q.1 + 1 == i && q.2.category == 2))))) : g_lv c ls' lv' := by
  obtain ⟨e, hi, ho⟩ := h
  subst e
  refine ⟨⟨h'.1, h'.2.1, fun q hq => h'.2.2 q ?_⟩, by rw [List.length_set, List.length_set]; exact hn⟩
  obtain ⟨k, h1, h2⟩ := (g_ix_mem _ 0 q).mp hq
  have h1 : q.1 = k := by omega
  by_cases hk2 : k = i + 1
  · subst hk2
    rw [List.getElem?_set_self (by rw [List.length_set]; exact hi)] at h2
    cases h2
  rw [List.getElem?_set_ne (Ne.symm hk2)] at h2
  by_cases hk : k = i
  · subst hk
    rw [List.getElem?_set_self (by omega)] at h2
    obtain ⟨q1, q2⟩ := q
    simp only [Option.some.injEq] at h2
    simp only at h1
    rw [h1, ← h2]
    exact List.mem_cons_self
  · rw [List.getElem?_set_ne (Ne.symm hk)] at h2
    refine List.mem_cons_of_mem _ (List.mem_filter.mpr ⟨(g_ix_mem lv 0 q).mpr ⟨k, by omega, h2⟩, ?_⟩)
    by_cases hj : k + 1 = i
    · have := ho k q.2 hj h2
      simp [h1, hk, hk2, this]
    · simp [h1, hk, hk2, hj]

section LOC
variable {a0 a1 a2 a3 a4 a5 a6 a7 a8 a9 a10 a11 a12 : Option Value} {r : List (Option Value)} {v w : Value}
theorem lg0 : (some v :: r)[0]? = some (some v) := rfl
theorem lg1 : (a0 :: some v :: r)[1]? = some (some v) := rfl
theorem lg2 : (a0 :: a1 :: some v :: r)[2]? = some (some v) := rfl
theorem lg3 : (a0 :: a1 :: a2 :: some v :: r)[3]? = some (some v) := rfl
theorem lg4 : (a0 :: a1 :: a2 :: a3 :: some v :: r)[4]? = some (some v) := rfl
theorem lg5 : (a0 :: a1 :: a2 :: a3 :: a4 :: some v :: r)[5]? = some (some v) := rfl
theorem lg6 : (a0 :: a1 :: a2 :: a3 :: a4 :: a5 :: some v :: r)[6]? = some (some v) := rfl
theorem lg7 : (a0 :: a1 :: a2 :: a3 :: a4 :: a5 :: a6 :: some v :: r)[7]? = some (some v) := rfl
theorem lg8 : (a0 :: a1 :: a2 :: a3 :: a4 :: a5 :: a6 :: a7 :: some v :: r)[8]? = some (some v) := rfl
theorem lg9 : (a0 :: a1 :: a2 :: a3 :: a4 :: a5 :: a6 :: a7 :: a8 :: some v :: r)[9]? = some (some v) := rfl
theorem lg10 : (a0 :: a1 :: a2 :: a3 :: a4 :: a5 :: a6 :: a7 :: a8 :: a9 :: some v :: r)[10]? = some (some v) := rfl
theorem lg11 : (a0 :: a1 :: a2 :: a3 :: a4 :: a5 :: a6 :: a7 :: a8 :: a9 :: a10 :: some v :: r)[11]? = some (some v) := rfl
theorem lg12 : (a0 :: a1 :: a2 :: a3 :: a4 :: a5 :: a6 :: a7 :: a8 :: a9 :: a10 :: a11 :: some v :: r)[12]? = some (some v) := rfl
theorem ls0 : g_set 0 v (a0 :: r) (some v :: r) := ⟨rfl, by simp, fun j w h => by omega⟩
theorem ls1n : g_set 1 v (none :: a1 :: r) (none :: some v :: r) := ⟨rfl, by simp, fun j w h q => by (have e : j = 0 := by omega); subst e; cases q <;> simp [Value.category]⟩
theorem ls1i {x : Int32} : g_set 1 v (some (.int x) :: a1 :: r) (some (.int x) :: some v :: r) := ⟨rfl, by simp, fun j w h q => by (have e : j = 0 := by omega); subst e; cases q <;> simp [Value.category]⟩
theorem ls1r {x : Nat} : g_set 1 v (some (.ref x) :: a1 :: r) (some (.ref x) :: some v :: r) := ⟨rfl, by simp, fun j w h q => by (have e : j = 0 := by omega); subst e; cases q <;> simp [Value.category]⟩
theorem ls2n : g_set 2 v (a0 :: none :: a2 :: r) (a0 :: none :: some v :: r) := ⟨rfl, by simp, fun j w h q => by (have e : j = 1 := by omega); subst e; cases q <;> simp [Value.category]⟩
theorem ls2i {x : Int32} : g_set 2 v (a0 :: some (.int x) :: a2 :: r) (a0 :: some (.int x) :: some v :: r) := ⟨rfl, by simp, fun j w h q => by (have e : j = 1 := by omega); subst e; cases q <;> simp [Value.category]⟩
theorem ls2r {x : Nat} : g_set 2 v (a0 :: some (.ref x) :: a2 :: r) (a0 :: some (.ref x) :: some v :: r) := ⟨rfl, by simp, fun j w h q => by (have e : j = 1 := by omega); subst e; cases q <;> simp [Value.category]⟩
theorem ls3n : g_set 3 v (a0 :: a1 :: none :: a3 :: r) (a0 :: a1 :: none :: some v :: r) := ⟨rfl, by simp, fun j w h q => by (have e : j = 2 := by omega); subst e; cases q <;> simp [Value.category]⟩
theorem ls3i {x : Int32} : g_set 3 v (a0 :: a1 :: some (.int x) :: a3 :: r) (a0 :: a1 :: some (.int x) :: some v :: r) := ⟨rfl, by simp, fun j w h q => by (have e : j = 2 := by omega); subst e; cases q <;> simp [Value.category]⟩
theorem ls3r {x : Nat} : g_set 3 v (a0 :: a1 :: some (.ref x) :: a3 :: r) (a0 :: a1 :: some (.ref x) :: some v :: r) := ⟨rfl, by simp, fun j w h q => by (have e : j = 2 := by omega); subst e; cases q <;> simp [Value.category]⟩
theorem ls4n : g_set 4 v (a0 :: a1 :: a2 :: none :: a4 :: r) (a0 :: a1 :: a2 :: none :: some v :: r) := ⟨rfl, by simp, fun j w h q => by (have e : j = 3 := by omega); subst e; cases q <;> simp [Value.category]⟩
theorem ls4i {x : Int32} : g_set 4 v (a0 :: a1 :: a2 :: some (.int x) :: a4 :: r) (a0 :: a1 :: a2 :: some (.int x) :: some v :: r) := ⟨rfl, by simp, fun j w h q => by (have e : j = 3 := by omega); subst e; cases q <;> simp [Value.category]⟩
theorem ls4r {x : Nat} : g_set 4 v (a0 :: a1 :: a2 :: some (.ref x) :: a4 :: r) (a0 :: a1 :: a2 :: some (.ref x) :: some v :: r) := ⟨rfl, by simp, fun j w h q => by (have e : j = 3 := by omega); subst e; cases q <;> simp [Value.category]⟩
theorem ls5n : g_set 5 v (a0 :: a1 :: a2 :: a3 :: none :: a5 :: r) (a0 :: a1 :: a2 :: a3 :: none :: some v :: r) := ⟨rfl, by simp, fun j w h q => by (have e : j = 4 := by omega); subst e; cases q <;> simp [Value.category]⟩
theorem ls5i {x : Int32} : g_set 5 v (a0 :: a1 :: a2 :: a3 :: some (.int x) :: a5 :: r) (a0 :: a1 :: a2 :: a3 :: some (.int x) :: some v :: r) := ⟨rfl, by simp, fun j w h q => by (have e : j = 4 := by omega); subst e; cases q <;> simp [Value.category]⟩
theorem ls5r {x : Nat} : g_set 5 v (a0 :: a1 :: a2 :: a3 :: some (.ref x) :: a5 :: r) (a0 :: a1 :: a2 :: a3 :: some (.ref x) :: some v :: r) := ⟨rfl, by simp, fun j w h q => by (have e : j = 4 := by omega); subst e; cases q <;> simp [Value.category]⟩
theorem ls6n : g_set 6 v (a0 :: a1 :: a2 :: a3 :: a4 :: none :: a6 :: r) (a0 :: a1 :: a2 :: a3 :: a4 :: none :: some v :: r) := ⟨rfl, by simp, fun j w h q => by (have e : j = 5 := by omega); subst e; cases q <;> simp [Value.category]⟩
theorem ls6i {x : Int32} : g_set 6 v (a0 :: a1 :: a2 :: a3 :: a4 :: some (.int x) :: a6 :: r) (a0 :: a1 :: a2 :: a3 :: a4 :: some (.int x) :: some v :: r) := ⟨rfl, by simp, fun j w h q => by (have e : j = 5 := by omega); subst e; cases q <;> simp [Value.category]⟩
theorem ls6r {x : Nat} : g_set 6 v (a0 :: a1 :: a2 :: a3 :: a4 :: some (.ref x) :: a6 :: r) (a0 :: a1 :: a2 :: a3 :: a4 :: some (.ref x) :: some v :: r) := ⟨rfl, by simp, fun j w h q => by (have e : j = 5 := by omega); subst e; cases q <;> simp [Value.category]⟩
theorem ls7n : g_set 7 v (a0 :: a1 :: a2 :: a3 :: a4 :: a5 :: none :: a7 :: r) (a0 :: a1 :: a2 :: a3 :: a4 :: a5 :: none :: some v :: r) := ⟨rfl, by simp, fun j w h q => by (have e : j = 6 := by omega); subst e; cases q <;> simp [Value.category]⟩
theorem ls7i {x : Int32} : g_set 7 v (a0 :: a1 :: a2 :: a3 :: a4 :: a5 :: some (.int x) :: a7 :: r) (a0 :: a1 :: a2 :: a3 :: a4 :: a5 :: some (.int x) :: some v :: r) := ⟨rfl, by simp, fun j w h q => by (have e : j = 6 := by omega); subst e; cases q <;> simp [Value.category]⟩
theorem ls7r {x : Nat} : g_set 7 v (a0 :: a1 :: a2 :: a3 :: a4 :: a5 :: some (.ref x) :: a7 :: r) (a0 :: a1 :: a2 :: a3 :: a4 :: a5 :: some (.ref x) :: some v :: r) := ⟨rfl, by simp, fun j w h q => by (have e : j = 6 := by omega); subst e; cases q <;> simp [Value.category]⟩
theorem ls8n : g_set 8 v (a0 :: a1 :: a2 :: a3 :: a4 :: a5 :: a6 :: none :: a8 :: r) (a0 :: a1 :: a2 :: a3 :: a4 :: a5 :: a6 :: none :: some v :: r) := ⟨rfl, by simp, fun j w h q => by (have e : j = 7 := by omega); subst e; cases q <;> simp [Value.category]⟩
theorem ls8i {x : Int32} : g_set 8 v (a0 :: a1 :: a2 :: a3 :: a4 :: a5 :: a6 :: some (.int x) :: a8 :: r) (a0 :: a1 :: a2 :: a3 :: a4 :: a5 :: a6 :: some (.int x) :: some v :: r) := ⟨rfl, by simp, fun j w h q => by (have e : j = 7 := by omega); subst e; cases q <;> simp [Value.category]⟩
theorem ls8r {x : Nat} : g_set 8 v (a0 :: a1 :: a2 :: a3 :: a4 :: a5 :: a6 :: some (.ref x) :: a8 :: r) (a0 :: a1 :: a2 :: a3 :: a4 :: a5 :: a6 :: some (.ref x) :: some v :: r) := ⟨rfl, by simp, fun j w h q => by (have e : j = 7 := by omega); subst e; cases q <;> simp [Value.category]⟩
theorem ls9n : g_set 9 v (a0 :: a1 :: a2 :: a3 :: a4 :: a5 :: a6 :: a7 :: none :: a9 :: r) (a0 :: a1 :: a2 :: a3 :: a4 :: a5 :: a6 :: a7 :: none :: some v :: r) := ⟨rfl, by simp, fun j w h q => by (have e : j = 8 := by omega); subst e; cases q <;> simp [Value.category]⟩
theorem ls9i {x : Int32} : g_set 9 v (a0 :: a1 :: a2 :: a3 :: a4 :: a5 :: a6 :: a7 :: some (.int x) :: a9 :: r) (a0 :: a1 :: a2 :: a3 :: a4 :: a5 :: a6 :: a7 :: some (.int x) :: some v :: r) := ⟨rfl, by simp, fun j w h q => by (have e : j = 8 := by omega); subst e; cases q <;> simp [Value.category]⟩
theorem ls9r {x : Nat} : g_set 9 v (a0 :: a1 :: a2 :: a3 :: a4 :: a5 :: a6 :: a7 :: some (.ref x) :: a9 :: r) (a0 :: a1 :: a2 :: a3 :: a4 :: a5 :: a6 :: a7 :: some (.ref x) :: some v :: r) := ⟨rfl, by simp, fun j w h q => by (have e : j = 8 := by omega); subst e; cases q <;> simp [Value.category]⟩
theorem ls10n : g_set 10 v (a0 :: a1 :: a2 :: a3 :: a4 :: a5 :: a6 :: a7 :: a8 :: none :: a10 :: r) (a0 :: a1 :: a2 :: a3 :: a4 :: a5 :: a6 :: a7 :: a8 :: none :: some v :: r) := ⟨rfl, by simp, fun j w h q => by (have e : j = 9 := by omega); subst e; cases q <;> simp [Value.category]⟩
theorem ls10i {x : Int32} : g_set 10 v (a0 :: a1 :: a2 :: a3 :: a4 :: a5 :: a6 :: a7 :: a8 :: some (.int x) :: a10 :: r) (a0 :: a1 :: a2 :: a3 :: a4 :: a5 :: a6 :: a7 :: a8 :: some (.int x) :: some v :: r) := ⟨rfl, by simp, fun j w h q => by (have e : j = 9 := by omega); subst e; cases q <;> simp [Value.category]⟩
theorem ls10r {x : Nat} : g_set 10 v (a0 :: a1 :: a2 :: a3 :: a4 :: a5 :: a6 :: a7 :: a8 :: some (.ref x) :: a10 :: r) (a0 :: a1 :: a2 :: a3 :: a4 :: a5 :: a6 :: a7 :: a8 :: some (.ref x) :: some v :: r) := ⟨rfl, by simp, fun j w h q => by (have e : j = 9 := by omega); subst e; cases q <;> simp [Value.category]⟩
theorem ls11n : g_set 11 v (a0 :: a1 :: a2 :: a3 :: a4 :: a5 :: a6 :: a7 :: a8 :: a9 :: none :: a11 :: r) (a0 :: a1 :: a2 :: a3 :: a4 :: a5 :: a6 :: a7 :: a8 :: a9 :: none :: some v :: r) := ⟨rfl, by simp, fun j w h q => by (have e : j = 10 := by omega); subst e; cases q <;> simp [Value.category]⟩
theorem ls11i {x : Int32} : g_set 11 v (a0 :: a1 :: a2 :: a3 :: a4 :: a5 :: a6 :: a7 :: a8 :: a9 :: some (.int x) :: a11 :: r) (a0 :: a1 :: a2 :: a3 :: a4 :: a5 :: a6 :: a7 :: a8 :: a9 :: some (.int x) :: some v :: r) := ⟨rfl, by simp, fun j w h q => by (have e : j = 10 := by omega); subst e; cases q <;> simp [Value.category]⟩
theorem ls11r {x : Nat} : g_set 11 v (a0 :: a1 :: a2 :: a3 :: a4 :: a5 :: a6 :: a7 :: a8 :: a9 :: some (.ref x) :: a11 :: r) (a0 :: a1 :: a2 :: a3 :: a4 :: a5 :: a6 :: a7 :: a8 :: a9 :: some (.ref x) :: some v :: r) := ⟨rfl, by simp, fun j w h q => by (have e : j = 10 := by omega); subst e; cases q <;> simp [Value.category]⟩
theorem ls12n : g_set 12 v (a0 :: a1 :: a2 :: a3 :: a4 :: a5 :: a6 :: a7 :: a8 :: a9 :: a10 :: none :: a12 :: r) (a0 :: a1 :: a2 :: a3 :: a4 :: a5 :: a6 :: a7 :: a8 :: a9 :: a10 :: none :: some v :: r) := ⟨rfl, by simp, fun j w h q => by (have e : j = 11 := by omega); subst e; cases q <;> simp [Value.category]⟩
theorem ls12i {x : Int32} : g_set 12 v (a0 :: a1 :: a2 :: a3 :: a4 :: a5 :: a6 :: a7 :: a8 :: a9 :: a10 :: some (.int x) :: a12 :: r) (a0 :: a1 :: a2 :: a3 :: a4 :: a5 :: a6 :: a7 :: a8 :: a9 :: a10 :: some (.int x) :: some v :: r) := ⟨rfl, by simp, fun j w h q => by (have e : j = 11 := by omega); subst e; cases q <;> simp [Value.category]⟩
theorem ls12r {x : Nat} : g_set 12 v (a0 :: a1 :: a2 :: a3 :: a4 :: a5 :: a6 :: a7 :: a8 :: a9 :: a10 :: some (.ref x) :: a12 :: r) (a0 :: a1 :: a2 :: a3 :: a4 :: a5 :: a6 :: a7 :: a8 :: a9 :: a10 :: some (.ref x) :: some v :: r) := ⟨rfl, by simp, fun j w h q => by (have e : j = 11 := by omega); subst e; cases q <;> simp [Value.category]⟩
theorem lt1n : g_set2 1 v (none :: a1 :: a2 :: r) (none :: some v :: none :: r) := ⟨rfl, by simp, fun j w h q => by (have e : j = 0 := by omega); subst e; cases q <;> simp [Value.category]⟩
theorem lt1i {x : Int32} : g_set2 1 v (some (.int x) :: a1 :: a2 :: r) (some (.int x) :: some v :: none :: r) := ⟨rfl, by simp, fun j w h q => by (have e : j = 0 := by omega); subst e; cases q <;> simp [Value.category]⟩
theorem lt1r {x : Nat} : g_set2 1 v (some (.ref x) :: a1 :: a2 :: r) (some (.ref x) :: some v :: none :: r) := ⟨rfl, by simp, fun j w h q => by (have e : j = 0 := by omega); subst e; cases q <;> simp [Value.category]⟩
theorem lt2n : g_set2 2 v (a0 :: none :: a2 :: a3 :: r) (a0 :: none :: some v :: none :: r) := ⟨rfl, by simp, fun j w h q => by (have e : j = 1 := by omega); subst e; cases q <;> simp [Value.category]⟩
theorem lt2i {x : Int32} : g_set2 2 v (a0 :: some (.int x) :: a2 :: a3 :: r) (a0 :: some (.int x) :: some v :: none :: r) := ⟨rfl, by simp, fun j w h q => by (have e : j = 1 := by omega); subst e; cases q <;> simp [Value.category]⟩
theorem lt2r {x : Nat} : g_set2 2 v (a0 :: some (.ref x) :: a2 :: a3 :: r) (a0 :: some (.ref x) :: some v :: none :: r) := ⟨rfl, by simp, fun j w h q => by (have e : j = 1 := by omega); subst e; cases q <;> simp [Value.category]⟩
theorem lt3n : g_set2 3 v (a0 :: a1 :: none :: a3 :: a4 :: r) (a0 :: a1 :: none :: some v :: none :: r) := ⟨rfl, by simp, fun j w h q => by (have e : j = 2 := by omega); subst e; cases q <;> simp [Value.category]⟩
theorem lt3i {x : Int32} : g_set2 3 v (a0 :: a1 :: some (.int x) :: a3 :: a4 :: r) (a0 :: a1 :: some (.int x) :: some v :: none :: r) := ⟨rfl, by simp, fun j w h q => by (have e : j = 2 := by omega); subst e; cases q <;> simp [Value.category]⟩
theorem lt3r {x : Nat} : g_set2 3 v (a0 :: a1 :: some (.ref x) :: a3 :: a4 :: r) (a0 :: a1 :: some (.ref x) :: some v :: none :: r) := ⟨rfl, by simp, fun j w h q => by (have e : j = 2 := by omega); subst e; cases q <;> simp [Value.category]⟩
theorem lt4n : g_set2 4 v (a0 :: a1 :: a2 :: none :: a4 :: a5 :: r) (a0 :: a1 :: a2 :: none :: some v :: none :: r) := ⟨rfl, by simp, fun j w h q => by (have e : j = 3 := by omega); subst e; cases q <;> simp [Value.category]⟩
theorem lt4i {x : Int32} : g_set2 4 v (a0 :: a1 :: a2 :: some (.int x) :: a4 :: a5 :: r) (a0 :: a1 :: a2 :: some (.int x) :: some v :: none :: r) := ⟨rfl, by simp, fun j w h q => by (have e : j = 3 := by omega); subst e; cases q <;> simp [Value.category]⟩
theorem lt4r {x : Nat} : g_set2 4 v (a0 :: a1 :: a2 :: some (.ref x) :: a4 :: a5 :: r) (a0 :: a1 :: a2 :: some (.ref x) :: some v :: none :: r) := ⟨rfl, by simp, fun j w h q => by (have e : j = 3 := by omega); subst e; cases q <;> simp [Value.category]⟩
theorem lt5n : g_set2 5 v (a0 :: a1 :: a2 :: a3 :: none :: a5 :: a6 :: r) (a0 :: a1 :: a2 :: a3 :: none :: some v :: none :: r) := ⟨rfl, by simp, fun j w h q => by (have e : j = 4 := by omega); subst e; cases q <;> simp [Value.category]⟩
theorem lt5i {x : Int32} : g_set2 5 v (a0 :: a1 :: a2 :: a3 :: some (.int x) :: a5 :: a6 :: r) (a0 :: a1 :: a2 :: a3 :: some (.int x) :: some v :: none :: r) := ⟨rfl, by simp, fun j w h q => by (have e : j = 4 := by omega); subst e; cases q <;> simp [Value.category]⟩
theorem lt5r {x : Nat} : g_set2 5 v (a0 :: a1 :: a2 :: a3 :: some (.ref x) :: a5 :: a6 :: r) (a0 :: a1 :: a2 :: a3 :: some (.ref x) :: some v :: none :: r) := ⟨rfl, by simp, fun j w h q => by (have e : j = 4 := by omega); subst e; cases q <;> simp [Value.category]⟩
theorem lt6n : g_set2 6 v (a0 :: a1 :: a2 :: a3 :: a4 :: none :: a6 :: a7 :: r) (a0 :: a1 :: a2 :: a3 :: a4 :: none :: some v :: none :: r) := ⟨rfl, by simp, fun j w h q => by (have e : j = 5 := by omega); subst e; cases q <;> simp [Value.category]⟩
theorem lt6i {x : Int32} : g_set2 6 v (a0 :: a1 :: a2 :: a3 :: a4 :: some (.int x) :: a6 :: a7 :: r) (a0 :: a1 :: a2 :: a3 :: a4 :: some (.int x) :: some v :: none :: r) := ⟨rfl, by simp, fun j w h q => by (have e : j = 5 := by omega); subst e; cases q <;> simp [Value.category]⟩
theorem lt6r {x : Nat} : g_set2 6 v (a0 :: a1 :: a2 :: a3 :: a4 :: some (.ref x) :: a6 :: a7 :: r) (a0 :: a1 :: a2 :: a3 :: a4 :: some (.ref x) :: some v :: none :: r) := ⟨rfl, by simp, fun j w h q => by (have e : j = 5 := by omega); subst e; cases q <;> simp [Value.category]⟩
theorem lt7n : g_set2 7 v (a0 :: a1 :: a2 :: a3 :: a4 :: a5 :: none :: a7 :: a8 :: r) (a0 :: a1 :: a2 :: a3 :: a4 :: a5 :: none :: some v :: none :: r) := ⟨rfl, by simp, fun j w h q => by (have e : j = 6 := by omega); subst e; cases q <;> simp [Value.category]⟩
theorem lt7i {x : Int32} : g_set2 7 v (a0 :: a1 :: a2 :: a3 :: a4 :: a5 :: some (.int x) :: a7 :: a8 :: r) (a0 :: a1 :: a2 :: a3 :: a4 :: a5 :: some (.int x) :: some v :: none :: r) := ⟨rfl, by simp, fun j w h q => by (have e : j = 6 := by omega); subst e; cases q <;> simp [Value.category]⟩
theorem lt7r {x : Nat} : g_set2 7 v (a0 :: a1 :: a2 :: a3 :: a4 :: a5 :: some (.ref x) :: a7 :: a8 :: r) (a0 :: a1 :: a2 :: a3 :: a4 :: a5 :: some (.ref x) :: some v :: none :: r) := ⟨rfl, by simp, fun j w h q => by (have e : j = 6 := by omega); subst e; cases q <;> simp [Value.category]⟩
theorem lt8n : g_set2 8 v (a0 :: a1 :: a2 :: a3 :: a4 :: a5 :: a6 :: none :: a8 :: a9 :: r) (a0 :: a1 :: a2 :: a3 :: a4 :: a5 :: a6 :: none :: some v :: none :: r) := ⟨rfl, by simp, fun j w h q => by (have e : j = 7 := by omega); subst e; cases q <;> simp [Value.category]⟩
theorem lt8i {x : Int32} : g_set2 8 v (a0 :: a1 :: a2 :: a3 :: a4 :: a5 :: a6 :: some (.int x) :: a8 :: a9 :: r) (a0 :: a1 :: a2 :: a3 :: a4 :: a5 :: a6 :: some (.int x) :: some v :: none :: r) := ⟨rfl, by simp, fun j w h q => by (have e : j = 7 := by omega); subst e; cases q <;> simp [Value.category]⟩
theorem lt8r {x : Nat} : g_set2 8 v (a0 :: a1 :: a2 :: a3 :: a4 :: a5 :: a6 :: some (.ref x) :: a8 :: a9 :: r) (a0 :: a1 :: a2 :: a3 :: a4 :: a5 :: a6 :: some (.ref x) :: some v :: none :: r) := ⟨rfl, by simp, fun j w h q => by (have e : j = 7 := by omega); subst e; cases q <;> simp [Value.category]⟩
theorem lt9n : g_set2 9 v (a0 :: a1 :: a2 :: a3 :: a4 :: a5 :: a6 :: a7 :: none :: a9 :: a10 :: r) (a0 :: a1 :: a2 :: a3 :: a4 :: a5 :: a6 :: a7 :: none :: some v :: none :: r) := ⟨rfl, by simp, fun j w h q => by (have e : j = 8 := by omega); subst e; cases q <;> simp [Value.category]⟩
theorem lt9i {x : Int32} : g_set2 9 v (a0 :: a1 :: a2 :: a3 :: a4 :: a5 :: a6 :: a7 :: some (.int x) :: a9 :: a10 :: r) (a0 :: a1 :: a2 :: a3 :: a4 :: a5 :: a6 :: a7 :: some (.int x) :: some v :: none :: r) := ⟨rfl, by simp, fun j w h q => by (have e : j = 8 := by omega); subst e; cases q <;> simp [Value.category]⟩
theorem lt9r {x : Nat} : g_set2 9 v (a0 :: a1 :: a2 :: a3 :: a4 :: a5 :: a6 :: a7 :: some (.ref x) :: a9 :: a10 :: r) (a0 :: a1 :: a2 :: a3 :: a4 :: a5 :: a6 :: a7 :: some (.ref x) :: some v :: none :: r) := ⟨rfl, by simp, fun j w h q => by (have e : j = 8 := by omega); subst e; cases q <;> simp [Value.category]⟩
theorem lt10n : g_set2 10 v (a0 :: a1 :: a2 :: a3 :: a4 :: a5 :: a6 :: a7 :: a8 :: none :: a10 :: a11 :: r) (a0 :: a1 :: a2 :: a3 :: a4 :: a5 :: a6 :: a7 :: a8 :: none :: some v :: none :: r) := ⟨rfl, by simp, fun j w h q => by (have e : j = 9 := by omega); subst e; cases q <;> simp [Value.category]⟩
theorem lt10i {x : Int32} : g_set2 10 v (a0 :: a1 :: a2 :: a3 :: a4 :: a5 :: a6 :: a7 :: a8 :: some (.int x) :: a10 :: a11 :: r) (a0 :: a1 :: a2 :: a3 :: a4 :: a5 :: a6 :: a7 :: a8 :: some (.int x) :: some v :: none :: r) := ⟨rfl, by simp, fun j w h q => by (have e : j = 9 := by omega); subst e; cases q <;> simp [Value.category]⟩
theorem lt10r {x : Nat} : g_set2 10 v (a0 :: a1 :: a2 :: a3 :: a4 :: a5 :: a6 :: a7 :: a8 :: some (.ref x) :: a10 :: a11 :: r) (a0 :: a1 :: a2 :: a3 :: a4 :: a5 :: a6 :: a7 :: a8 :: some (.ref x) :: some v :: none :: r) := ⟨rfl, by simp, fun j w h q => by (have e : j = 9 := by omega); subst e; cases q <;> simp [Value.category]⟩
end LOC
/-- what a walk's context says: the caller's frame, the machine, the room, what the end wants -/
abbrev g_X : Type := Launch × Room × Option FieldType × (Nat → Prop) × (Nat × Nat) × (Program → Env → State → MethodId → Array Value → List Frame → Method → Code → (State → Prop) → Prop)
def g_Cx (G : g_G) (X : g_X) (p : Program) (s : State) (m : MethodId) (args : Array Value) (meth : Method) (c : Code) (cc : ByteArray) (own : String) : Prop :=
  p.tables.exec = Jvm.exec ∧ c.code = cc ∧ s.vm.findClass own = some m.cls ∧ (∀ w ∈ lw_use, w.before args s = true) ∧ va_K G.1 g_cl (g_tys G) s ∧ g_inj G ∧ (∀ c, c < g_N → X.2.2.2.1 (g_a G c)) ∧ g_St G X.2.2.2.1 s s.heap ∧ meth.locks = false ∧ meth.sig.returnType = X.2.2.1
def JW (G : g_G) (X : g_X) (cc : ByteArray) (own : String) (pc : Nat) (lv : List (Option Value)) (st : List Value) (V : g_V) (S : g_L) : Prop :=
  ∀ (p : Program) (e : Env) (s : State) (m : MethodId) (args : Array Value) (below : List Frame) (meth : Method) (c : Code) (Q : State → Prop), g_Cx G X p s m args meth c cc own → X.2.2.2.2.2 p e s m args below meth c Q →
    ∀ (H : Heap) (locs : List Loc) (ls : Array Slot), g_lv c ls lv → va_P G.1 g_cl (g_W G V S) H → va_S X.2.2.2.1 s.heap H locs →
      W p X.1 e X.2.1 s m args below meth c H locs X.2.2.2.2.1.1 X.2.2.2.2.1.2 Q (F0 m pc ls st)
section JWR
variable {G : g_G} {X : g_X} {cc : ByteArray} {own : String} {pc : Nat} {lv lv' : List (Option Value)} {st : List Value} {V : g_V} {S : g_L}
theorem j_iconst {n : Int} {v : Int32} (hd : decode cc pc = .ok (.iconst n, 1)) (hv : Int32.ofInt n = v) (kk : JW G X cc own (pc + 1) lv (.int v :: st) V S) : JW G X cc own pc lv st V S :=
  fun p e s m args below meth c Q C K H locs ls hl hP hS => lv_iconst C.1 C.2.1 hd hv (kk p e s m args below meth c Q C K H locs ls hl hP hS)
theorem j_bipush {n : Int} {v : Int32} (hd : decode cc pc = .ok (.bipush n, 2)) (hv : (Int8.ofInt n).toInt32 = v) (kk : JW G X cc own (pc + 2) lv (.int v :: st) V S) : JW G X cc own pc lv st V S :=
  fun p e s m args below meth c Q C K H locs ls hl hP hS => lv_bipush C.1 C.2.1 hd hv (kk p e s m args below meth c Q C K H locs ls hl hP hS)
theorem j_sipush {n : Int} {v : Int32} (hd : decode cc pc = .ok (.sipush n, 3)) (hv : (Int16.ofInt n).toInt32 = v) (kk : JW G X cc own (pc + 3) lv (.int v :: st) V S) : JW G X cc own pc lv st V S :=
  fun p e s m args below meth c Q C K H locs ls hl hP hS => lv_sipush C.1 C.2.1 hd hv (kk p e s m args below meth c Q C K H locs ls hl hP hS)
theorem j_lconst {n : Fin 2} {v : Int64} (hd : decode cc pc = .ok (.lconst n, 1)) (hv : Int64.ofNat (n : Nat) = v) (kk : JW G X cc own (pc + 1) lv (.long v :: st) V S) : JW G X cc own pc lv st V S :=
  fun p e s m args below meth c Q C K H locs ls hl hP hS => lv_lconst C.1 C.2.1 hd hv (kk p e s m args below meth c Q C K H locs ls hl hP hS)
theorem j_ldc {i : Nat} {v : Int32} (hd : decode cc pc = .ok (.ldc i, 2)) (hw : Cond.constant own i v ∈ lw_use) (kk : JW G X cc own (pc + 2) lv (.int v :: st) V S) : JW G X cc own pc lv st V S :=
  fun p e s m args below meth c Q C K H locs ls hl hP hS => lv_ldc C.1 C.2.1 C.2.2.1 (C.2.2.2.1 _ hw) hd (kk p e s m args below meth c Q C K H locs ls hl hP hS)
theorem j_ldc2 {i : Nat} {v : Int64} (hd : decode cc pc = .ok (.ldc2_w i, 3)) (hw : Cond.constantLong own i v ∈ lw_use) (kk : JW G X cc own (pc + 3) lv (.long v :: st) V S) : JW G X cc own pc lv st V S :=
  fun p e s m args below meth c Q C K H locs ls hl hP hS => lv_ldc2 C.1 C.2.1 C.2.2.1 (C.2.2.2.1 _ hw) hd (kk p e s m args below meth c Q C K H locs ls hl hP hS)
theorem j_iload_n {k : Fin 4} {i : Nat} {x : Int32} (hd : decode cc pc = .ok (.iload_n k, 1)) (hi : (k : Nat) = i) (hv : lv[i]? = some (some (.int x))) (kk : JW G X cc own (pc + 1) lv (.int x :: st) V S) : JW G X cc own pc lv st V S :=
  fun p e s m args below meth c Q C K H locs ls hl hP hS => lv_iload_n C.1 C.2.1 hd hi (hl.at hv) (kk p e s m args below meth c Q C K H locs ls hl hP hS)
theorem j_iload {i : Nat} {x : Int32} (hd : decode cc pc = .ok (.iload i, 2)) (hv : lv[i]? = some (some (.int x))) (kk : JW G X cc own (pc + 2) lv (.int x :: st) V S) : JW G X cc own pc lv st V S :=
  fun p e s m args below meth c Q C K H locs ls hl hP hS => lv_iload C.1 C.2.1 hd (hl.at hv) (kk p e s m args below meth c Q C K H locs ls hl hP hS)
theorem j_lload_n {k : Fin 4} {i : Nat} {x : Int64} (hd : decode cc pc = .ok (.lload_n k, 1)) (hi : (k : Nat) = i) (hv : lv[i]? = some (some (.long x))) (kk : JW G X cc own (pc + 1) lv (.long x :: st) V S) : JW G X cc own pc lv st V S :=
  fun p e s m args below meth c Q C K H locs ls hl hP hS => lv_lload_n C.1 C.2.1 hd hi (hl.at hv) (kk p e s m args below meth c Q C K H locs ls hl hP hS)
theorem j_lload {i : Nat} {x : Int64} (hd : decode cc pc = .ok (.lload i, 2)) (hv : lv[i]? = some (some (.long x))) (kk : JW G X cc own (pc + 2) lv (.long x :: st) V S) : JW G X cc own pc lv st V S :=
  fun p e s m args below meth c Q C K H locs ls hl hP hS => lv_lload C.1 C.2.1 hd (hl.at hv) (kk p e s m args below meth c Q C K H locs ls hl hP hS)
theorem j_aload_n {k : Fin 4} {i : Nat} {x : Nat} (hd : decode cc pc = .ok (.aload_n k, 1)) (hi : (k : Nat) = i) (hv : lv[i]? = some (some (.ref x))) (kk : JW G X cc own (pc + 1) lv (.ref x :: st) V S) : JW G X cc own pc lv st V S :=
  fun p e s m args below meth c Q C K H locs ls hl hP hS => lv_aload_n C.1 C.2.1 hd hi (hl.at hv) (kk p e s m args below meth c Q C K H locs ls hl hP hS)
theorem j_aload {i : Nat} {x : Nat} (hd : decode cc pc = .ok (.aload i, 2)) (hv : lv[i]? = some (some (.ref x))) (kk : JW G X cc own (pc + 2) lv (.ref x :: st) V S) : JW G X cc own pc lv st V S :=
  fun p e s m args below meth c Q C K H locs ls hl hP hS => lv_aload C.1 C.2.1 hd (hl.at hv) (kk p e s m args below meth c Q C K H locs ls hl hP hS)
theorem j_istore_n {k : Fin 4} {i : Nat} {x : Int32} (hd : decode cc pc = .ok (.istore_n k, 1)) (hi : (k : Nat) = i) (hs : g_set i (.int x) lv lv') (kk : JW G X cc own (pc + 1) lv' st V S) : JW G X cc own pc lv (.int x :: st) V S :=
  fun p e s m args below meth c Q C K H locs ls hl hP hS => lv_istore_n C.1 C.2.1 hd hi hl.1 (hs.lt hl) rfl (fun ls' h' => kk p e s m args below meth c Q C K H locs ls' (hs.to hl.2 h') hP hS)
theorem j_istore {i : Nat} {x : Int32} (hd : decode cc pc = .ok (.istore i, 2)) (hs : g_set i (.int x) lv lv') (kk : JW G X cc own (pc + 2) lv' st V S) : JW G X cc own pc lv (.int x :: st) V S :=
  fun p e s m args below meth c Q C K H locs ls hl hP hS => lv_istore C.1 C.2.1 hd hl.1 (hs.lt hl) rfl (fun ls' h' => kk p e s m args below meth c Q C K H locs ls' (hs.to hl.2 h') hP hS)
theorem j_astore_n {k : Fin 4} {i : Nat} {x : Nat} (hd : decode cc pc = .ok (.astore_n k, 1)) (hi : (k : Nat) = i) (hs : g_set i (.ref x) lv lv') (kk : JW G X cc own (pc + 1) lv' st V S) : JW G X cc own pc lv (.ref x :: st) V S :=
  fun p e s m args below meth c Q C K H locs ls hl hP hS => lv_astore_n C.1 C.2.1 hd hi hl.1 (hs.lt hl) rfl (fun ls' h' => kk p e s m args below meth c Q C K H locs ls' (hs.to hl.2 h') hP hS)
theorem j_astore {i : Nat} {x : Nat} (hd : decode cc pc = .ok (.astore i, 2)) (hs : g_set i (.ref x) lv lv') (kk : JW G X cc own (pc + 2) lv' st V S) : JW G X cc own pc lv (.ref x :: st) V S :=
  fun p e s m args below meth c Q C K H locs ls hl hP hS => lv_astore C.1 C.2.1 hd hl.1 (hs.lt hl) rfl (fun ls' h' => kk p e s m args below meth c Q C K H locs ls' (hs.to hl.2 h') hP hS)
theorem j_lstore_n {k : Fin 4} {i : Nat} {x : Int64} (hd : decode cc pc = .ok (.lstore_n k, 1)) (hi : (k : Nat) = i) (hs : g_set2 i (.long x) lv lv') (kk : JW G X cc own (pc + 1) lv' st V S) : JW G X cc own pc lv (.long x :: st) V S :=
  fun p e s m args below meth c Q C K H locs ls hl hP hS => lv_lstore_n C.1 C.2.1 hd hi hl.1 (by rw [← hl.2]; exact hs.2.1) rfl (fun ls' h' => kk p e s m args below meth c Q C K H locs ls' (hs.to hl.2 h') hP hS)
theorem j_lstore {i : Nat} {x : Int64} (hd : decode cc pc = .ok (.lstore i, 2)) (hs : g_set2 i (.long x) lv lv') (kk : JW G X cc own (pc + 2) lv' st V S) : JW G X cc own pc lv (.long x :: st) V S :=
  fun p e s m args below meth c Q C K H locs ls hl hP hS => lv_lstore C.1 C.2.1 hd hl.1 (by rw [← hl.2]; exact hs.2.1) rfl (fun ls' h' => kk p e s m args below meth c Q C K H locs ls' (hs.to hl.2 h') hP hS)
theorem g_pos {lv : List (Option Value)} {i : Nat} {v : Value} (hv : lv[i]? = some (some v)) : ∃ k : Nat, (g_ix 0 lv)[k]? = some (i, v) := by
  have h : (i, v) ∈ g_ix 0 lv := (g_ix_mem lv 0 (i, v)).mpr ⟨i, by simp, hv⟩
  exact List.getElem?_of_mem h
theorem j_iinc {i : Nat} {n : Int} {x v : Int32} (hd : decode cc pc = .ok (.iinc i n, 3)) (hv : lv[i]? = some (some (.int x))) (hx : x + Int32.ofInt n = v) (hs : g_set i (.int v) lv lv') (kk : JW G X cc own (pc + 3) lv' st V S) : JW G X cc own pc lv st V S := by
  intro p e s m args below meth c Q C K H locs ls hl hP hS
  obtain ⟨k, hk⟩ := g_pos hv
  exact lv_iinc C.1 C.2.1 hd hl.1 hk hx (hs.lt hl) rfl (fun ls' h' => kk p e s m args below meth c Q C K H locs ls' (hs.to hl.2 h') hP hS)
theorem j_iadd {x y : Int32} (hd : decode cc pc = .ok (.iadd, 1)) (kk : JW G X cc own (pc + 1) lv (.int (x + y) :: st) V S) : JW G X cc own pc lv (.int y :: .int x :: st) V S :=
  fun p e s m args below meth c Q C K H locs ls hl hP hS => lv_iadd C.1 C.2.1 hd (kk p e s m args below meth c Q C K H locs ls hl hP hS)
theorem j_isub {x y : Int32} (hd : decode cc pc = .ok (.isub, 1)) (kk : JW G X cc own (pc + 1) lv (.int (x - y) :: st) V S) : JW G X cc own pc lv (.int y :: .int x :: st) V S :=
  fun p e s m args below meth c Q C K H locs ls hl hP hS => lv_isub C.1 C.2.1 hd (kk p e s m args below meth c Q C K H locs ls hl hP hS)
theorem j_imul {x y : Int32} (hd : decode cc pc = .ok (.imul, 1)) (kk : JW G X cc own (pc + 1) lv (.int (x * y) :: st) V S) : JW G X cc own pc lv (.int y :: .int x :: st) V S :=
  fun p e s m args below meth c Q C K H locs ls hl hP hS => lv_imul C.1 C.2.1 hd (kk p e s m args below meth c Q C K H locs ls hl hP hS)
theorem j_iand {x y : Int32} (hd : decode cc pc = .ok (.iand, 1)) (kk : JW G X cc own (pc + 1) lv (.int (x &&& y) :: st) V S) : JW G X cc own pc lv (.int y :: .int x :: st) V S :=
  fun p e s m args below meth c Q C K H locs ls hl hP hS => lv_iand C.1 C.2.1 hd (kk p e s m args below meth c Q C K H locs ls hl hP hS)
theorem j_ior {x y : Int32} (hd : decode cc pc = .ok (.ior, 1)) (kk : JW G X cc own (pc + 1) lv (.int (x ||| y) :: st) V S) : JW G X cc own pc lv (.int y :: .int x :: st) V S :=
  fun p e s m args below meth c Q C K H locs ls hl hP hS => lv_ior C.1 C.2.1 hd (kk p e s m args below meth c Q C K H locs ls hl hP hS)
theorem j_ixor {x y : Int32} (hd : decode cc pc = .ok (.ixor, 1)) (kk : JW G X cc own (pc + 1) lv (.int (x ^^^ y) :: st) V S) : JW G X cc own pc lv (.int y :: .int x :: st) V S :=
  fun p e s m args below meth c Q C K H locs ls hl hP hS => lv_ixor C.1 C.2.1 hd (kk p e s m args below meth c Q C K H locs ls hl hP hS)
theorem j_ishl {x y : Int32} (hd : decode cc pc = .ok (.ishl, 1)) (kk : JW G X cc own (pc + 1) lv (.int (x <<< (y &&& 31)) :: st) V S) : JW G X cc own pc lv (.int y :: .int x :: st) V S :=
  fun p e s m args below meth c Q C K H locs ls hl hP hS => lv_ishl C.1 C.2.1 hd (kk p e s m args below meth c Q C K H locs ls hl hP hS)
theorem j_ishr {x y : Int32} (hd : decode cc pc = .ok (.ishr, 1)) (kk : JW G X cc own (pc + 1) lv (.int (x >>> (y &&& 31)) :: st) V S) : JW G X cc own pc lv (.int y :: .int x :: st) V S :=
  fun p e s m args below meth c Q C K H locs ls hl hP hS => lv_ishr C.1 C.2.1 hd (kk p e s m args below meth c Q C K H locs ls hl hP hS)
theorem j_ladd {x y : Int64} (hd : decode cc pc = .ok (.ladd, 1)) (kk : JW G X cc own (pc + 1) lv (.long (x + y) :: st) V S) : JW G X cc own pc lv (.long y :: .long x :: st) V S :=
  fun p e s m args below meth c Q C K H locs ls hl hP hS => lv_ladd C.1 C.2.1 hd (kk p e s m args below meth c Q C K H locs ls hl hP hS)
theorem j_lsub {x y : Int64} (hd : decode cc pc = .ok (.lsub, 1)) (kk : JW G X cc own (pc + 1) lv (.long (x - y) :: st) V S) : JW G X cc own pc lv (.long y :: .long x :: st) V S :=
  fun p e s m args below meth c Q C K H locs ls hl hP hS => lv_lsub C.1 C.2.1 hd (kk p e s m args below meth c Q C K H locs ls hl hP hS)
theorem j_lmul {x y : Int64} (hd : decode cc pc = .ok (.lmul, 1)) (kk : JW G X cc own (pc + 1) lv (.long (x * y) :: st) V S) : JW G X cc own pc lv (.long y :: .long x :: st) V S :=
  fun p e s m args below meth c Q C K H locs ls hl hP hS => lv_lmul C.1 C.2.1 hd (kk p e s m args below meth c Q C K H locs ls hl hP hS)
theorem j_land {x y : Int64} (hd : decode cc pc = .ok (.land, 1)) (kk : JW G X cc own (pc + 1) lv (.long (x &&& y) :: st) V S) : JW G X cc own pc lv (.long y :: .long x :: st) V S :=
  fun p e s m args below meth c Q C K H locs ls hl hP hS => lv_land C.1 C.2.1 hd (kk p e s m args below meth c Q C K H locs ls hl hP hS)
theorem j_lor {x y : Int64} (hd : decode cc pc = .ok (.lor, 1)) (kk : JW G X cc own (pc + 1) lv (.long (x ||| y) :: st) V S) : JW G X cc own pc lv (.long y :: .long x :: st) V S :=
  fun p e s m args below meth c Q C K H locs ls hl hP hS => lv_lor C.1 C.2.1 hd (kk p e s m args below meth c Q C K H locs ls hl hP hS)
theorem j_idiv {x y : Int32} (hd : decode cc pc = .ok (.idiv, 1)) (hne : ¬ y = 0) (kk : JW G X cc own (pc + 1) lv (.int (x / y) :: st) V S) : JW G X cc own pc lv (.int y :: .int x :: st) V S :=
  fun p e s m args below meth c Q C K H locs ls hl hP hS => lv_idiv C.1 C.2.1 hd hne (kk p e s m args below meth c Q C K H locs ls hl hP hS)
theorem j_irem {x y : Int32} (hd : decode cc pc = .ok (.irem, 1)) (hne : ¬ y = 0) (kk : JW G X cc own (pc + 1) lv (.int (x - x / y * y) :: st) V S) : JW G X cc own pc lv (.int y :: .int x :: st) V S :=
  fun p e s m args below meth c Q C K H locs ls hl hP hS => lv_irem C.1 C.2.1 hd hne (kk p e s m args below meth c Q C K H locs ls hl hP hS)
theorem j_ldiv {x y : Int64} (hd : decode cc pc = .ok (.ldiv, 1)) (hne : ¬ y = 0) (kk : JW G X cc own (pc + 1) lv (.long (x / y) :: st) V S) : JW G X cc own pc lv (.long y :: .long x :: st) V S :=
  fun p e s m args below meth c Q C K H locs ls hl hP hS => lv_ldiv C.1 C.2.1 hd hne (kk p e s m args below meth c Q C K H locs ls hl hP hS)
theorem j_lrem {x y : Int64} (hd : decode cc pc = .ok (.lrem, 1)) (hne : ¬ y = 0) (kk : JW G X cc own (pc + 1) lv (.long (x - x / y * y) :: st) V S) : JW G X cc own pc lv (.long y :: .long x :: st) V S :=
  fun p e s m args below meth c Q C K H locs ls hl hP hS => lv_lrem C.1 C.2.1 hd hne (kk p e s m args below meth c Q C K H locs ls hl hP hS)
theorem j_ineg {x : Int32} (hd : decode cc pc = .ok (.ineg, 1)) (kk : JW G X cc own (pc + 1) lv (.int (-x) :: st) V S) : JW G X cc own pc lv (.int x :: st) V S :=
  fun p e s m args below meth c Q C K H locs ls hl hP hS => lv_ineg C.1 C.2.1 hd (kk p e s m args below meth c Q C K H locs ls hl hP hS)
theorem j_i2l {x : Int32} (hd : decode cc pc = .ok (.i2l, 1)) (kk : JW G X cc own (pc + 1) lv (.long x.toInt64 :: st) V S) : JW G X cc own pc lv (.int x :: st) V S :=
  fun p e s m args below meth c Q C K H locs ls hl hP hS => lv_i2l C.1 C.2.1 hd rfl (kk p e s m args below meth c Q C K H locs ls hl hP hS)
theorem j_l2i {x : Int64} (hd : decode cc pc = .ok (.l2i, 1)) (kk : JW G X cc own (pc + 1) lv (.int x.toInt32 :: st) V S) : JW G X cc own pc lv (.long x :: st) V S :=
  fun p e s m args below meth c Q C K H locs ls hl hP hS => lv_l2i C.1 C.2.1 hd rfl (kk p e s m args below meth c Q C K H locs ls hl hP hS)
theorem j_lshl {x : Int64} {y : Int32} (hd : decode cc pc = .ok (.lshl, 1)) (kk : JW G X cc own (pc + 1) lv (.long (x <<< (y.toInt64 &&& 63)) :: st) V S) : JW G X cc own pc lv (.int y :: .long x :: st) V S :=
  fun p e s m args below meth c Q C K H locs ls hl hP hS => lv_lshl C.1 C.2.1 hd rfl (kk p e s m args below meth c Q C K H locs ls hl hP hS)
theorem j_lushr {x : Int64} {y : Int32} (hd : decode cc pc = .ok (.lushr, 1)) (kk : JW G X cc own (pc + 1) lv (.long ((x.toUInt64 >>> (y.toInt64.toUInt64 &&& Int64.toUInt64 63)).toInt64) :: st) V S) : JW G X cc own pc lv (.int y :: .long x :: st) V S :=
  fun p e s m args below meth c Q C K H locs ls hl hP hS => lv_lushr C.1 C.2.1 hd rfl (kk p e s m args below meth c Q C K H locs ls hl hP hS)
theorem j_lcmp {x y : Int64} (hd : decode cc pc = .ok (.lcmp, 1)) (kk : JW G X cc own (pc + 1) lv (.int (lg_cmp x y) :: st) V S) : JW G X cc own pc lv (.long y :: .long x :: st) V S :=
  fun p e s m args below meth c Q C K H locs ls hl hP hS => W.lcmp C.1 C.2.1 hd (kk p e s m args below meth c Q C K H locs ls hl hP hS)
theorem j_dup {v : Value} (hd : decode cc pc = .ok (.dup, 1)) (hc : v.category = 1) (kk : JW G X cc own (pc + 1) lv (v :: v :: st) V S) : JW G X cc own pc lv (v :: st) V S :=
  fun p e s m args below meth c Q C K H locs ls hl hP hS => lv_dup C.1 C.2.1 hd hc (kk p e s m args below meth c Q C K H locs ls hl hP hS)
theorem j_dup2 {v u : Value} (hd : decode cc pc = .ok (.dup2, 1)) (hc : v.category = 1) (hc2 : u.category = 1) (kk : JW G X cc own (pc + 1) lv (v :: u :: v :: u :: st) V S) : JW G X cc own pc lv (v :: u :: st) V S :=
  fun p e s m args below meth c Q C K H locs ls hl hP hS => lv_dup2_11 C.1 C.2.1 hd hc hc2 (kk p e s m args below meth c Q C K H locs ls hl hP hS)
theorem j_if_eq {x : Int32} {off : Int} {tgt : Nat} (hd : decode cc pc = .ok (.ifCond .eq off, 3)) (ht : (pc : Int) + off = (tgt : Int)) (kt : x = 0 → JW G X cc own tgt lv st V S) (kf : ¬ x = 0 → JW G X cc own (pc + 3) lv st V S) : JW G X cc own pc lv (.int x :: st) V S :=
  fun p e s m args below meth c Q C K H locs ls hl hP hS => lv_if_eq C.1 C.2.1 hd ht (fun h => kt h p e s m args below meth c Q C K H locs ls hl hP hS) (fun h => kf h p e s m args below meth c Q C K H locs ls hl hP hS)
theorem j_icmp_eq {x y : Int32} {off : Int} {tgt : Nat} (hd : decode cc pc = .ok (.if_icmp .eq off, 3)) (ht : (pc : Int) + off = (tgt : Int)) (kt : x = y → JW G X cc own tgt lv st V S) (kf : ¬ x = y → JW G X cc own (pc + 3) lv st V S) : JW G X cc own pc lv (.int y :: .int x :: st) V S :=
  fun p e s m args below meth c Q C K H locs ls hl hP hS => lv_icmp_eq C.1 C.2.1 hd ht (fun h => kt h p e s m args below meth c Q C K H locs ls hl hP hS) (fun h => kf h p e s m args below meth c Q C K H locs ls hl hP hS)
theorem j_if_ne {x : Int32} {off : Int} {tgt : Nat} (hd : decode cc pc = .ok (.ifCond .ne off, 3)) (ht : (pc : Int) + off = (tgt : Int)) (kt : ¬ x = 0 → JW G X cc own tgt lv st V S) (kf : x = 0 → JW G X cc own (pc + 3) lv st V S) : JW G X cc own pc lv (.int x :: st) V S :=
  fun p e s m args below meth c Q C K H locs ls hl hP hS => lv_if_ne C.1 C.2.1 hd ht (fun h => kt h p e s m args below meth c Q C K H locs ls hl hP hS) (fun h => kf h p e s m args below meth c Q C K H locs ls hl hP hS)
theorem j_icmp_ne {x y : Int32} {off : Int} {tgt : Nat} (hd : decode cc pc = .ok (.if_icmp .ne off, 3)) (ht : (pc : Int) + off = (tgt : Int)) (kt : ¬ x = y → JW G X cc own tgt lv st V S) (kf : x = y → JW G X cc own (pc + 3) lv st V S) : JW G X cc own pc lv (.int y :: .int x :: st) V S :=
  fun p e s m args below meth c Q C K H locs ls hl hP hS => lv_icmp_ne C.1 C.2.1 hd ht (fun h => kt h p e s m args below meth c Q C K H locs ls hl hP hS) (fun h => kf h p e s m args below meth c Q C K H locs ls hl hP hS)
theorem j_if_lt {x : Int32} {off : Int} {tgt : Nat} (hd : decode cc pc = .ok (.ifCond .lt off, 3)) (ht : (pc : Int) + off = (tgt : Int)) (kt : x < 0 → JW G X cc own tgt lv st V S) (kf : ¬ x < 0 → JW G X cc own (pc + 3) lv st V S) : JW G X cc own pc lv (.int x :: st) V S :=
  fun p e s m args below meth c Q C K H locs ls hl hP hS => lv_if_lt C.1 C.2.1 hd ht (fun h => kt h p e s m args below meth c Q C K H locs ls hl hP hS) (fun h => kf h p e s m args below meth c Q C K H locs ls hl hP hS)
theorem j_icmp_lt {x y : Int32} {off : Int} {tgt : Nat} (hd : decode cc pc = .ok (.if_icmp .lt off, 3)) (ht : (pc : Int) + off = (tgt : Int)) (kt : x < y → JW G X cc own tgt lv st V S) (kf : ¬ x < y → JW G X cc own (pc + 3) lv st V S) : JW G X cc own pc lv (.int y :: .int x :: st) V S :=
  fun p e s m args below meth c Q C K H locs ls hl hP hS => lv_icmp_lt C.1 C.2.1 hd ht (fun h => kt h p e s m args below meth c Q C K H locs ls hl hP hS) (fun h => kf h p e s m args below meth c Q C K H locs ls hl hP hS)
theorem j_if_ge {x : Int32} {off : Int} {tgt : Nat} (hd : decode cc pc = .ok (.ifCond .ge off, 3)) (ht : (pc : Int) + off = (tgt : Int)) (kt : 0 ≤ x → JW G X cc own tgt lv st V S) (kf : ¬ 0 ≤ x → JW G X cc own (pc + 3) lv st V S) : JW G X cc own pc lv (.int x :: st) V S :=
  fun p e s m args below meth c Q C K H locs ls hl hP hS => lv_if_ge C.1 C.2.1 hd ht (fun h => kt h p e s m args below meth c Q C K H locs ls hl hP hS) (fun h => kf h p e s m args below meth c Q C K H locs ls hl hP hS)
theorem j_icmp_ge {x y : Int32} {off : Int} {tgt : Nat} (hd : decode cc pc = .ok (.if_icmp .ge off, 3)) (ht : (pc : Int) + off = (tgt : Int)) (kt : y ≤ x → JW G X cc own tgt lv st V S) (kf : ¬ y ≤ x → JW G X cc own (pc + 3) lv st V S) : JW G X cc own pc lv (.int y :: .int x :: st) V S :=
  fun p e s m args below meth c Q C K H locs ls hl hP hS => lv_icmp_ge C.1 C.2.1 hd ht (fun h => kt h p e s m args below meth c Q C K H locs ls hl hP hS) (fun h => kf h p e s m args below meth c Q C K H locs ls hl hP hS)
theorem j_if_gt {x : Int32} {off : Int} {tgt : Nat} (hd : decode cc pc = .ok (.ifCond .gt off, 3)) (ht : (pc : Int) + off = (tgt : Int)) (kt : 0 < x → JW G X cc own tgt lv st V S) (kf : ¬ 0 < x → JW G X cc own (pc + 3) lv st V S) : JW G X cc own pc lv (.int x :: st) V S :=
  fun p e s m args below meth c Q C K H locs ls hl hP hS => lv_if_gt C.1 C.2.1 hd ht (fun h => kt h p e s m args below meth c Q C K H locs ls hl hP hS) (fun h => kf h p e s m args below meth c Q C K H locs ls hl hP hS)
theorem j_icmp_gt {x y : Int32} {off : Int} {tgt : Nat} (hd : decode cc pc = .ok (.if_icmp .gt off, 3)) (ht : (pc : Int) + off = (tgt : Int)) (kt : y < x → JW G X cc own tgt lv st V S) (kf : ¬ y < x → JW G X cc own (pc + 3) lv st V S) : JW G X cc own pc lv (.int y :: .int x :: st) V S :=
  fun p e s m args below meth c Q C K H locs ls hl hP hS => lv_icmp_gt C.1 C.2.1 hd ht (fun h => kt h p e s m args below meth c Q C K H locs ls hl hP hS) (fun h => kf h p e s m args below meth c Q C K H locs ls hl hP hS)
theorem j_if_le {x : Int32} {off : Int} {tgt : Nat} (hd : decode cc pc = .ok (.ifCond .le off, 3)) (ht : (pc : Int) + off = (tgt : Int)) (kt : x ≤ 0 → JW G X cc own tgt lv st V S) (kf : ¬ x ≤ 0 → JW G X cc own (pc + 3) lv st V S) : JW G X cc own pc lv (.int x :: st) V S :=
  fun p e s m args below meth c Q C K H locs ls hl hP hS => lv_if_le C.1 C.2.1 hd ht (fun h => kt h p e s m args below meth c Q C K H locs ls hl hP hS) (fun h => kf h p e s m args below meth c Q C K H locs ls hl hP hS)
theorem j_icmp_le {x y : Int32} {off : Int} {tgt : Nat} (hd : decode cc pc = .ok (.if_icmp .le off, 3)) (ht : (pc : Int) + off = (tgt : Int)) (kt : x ≤ y → JW G X cc own tgt lv st V S) (kf : ¬ x ≤ y → JW G X cc own (pc + 3) lv st V S) : JW G X cc own pc lv (.int y :: .int x :: st) V S :=
  fun p e s m args below meth c Q C K H locs ls hl hP hS => lv_icmp_le C.1 C.2.1 hd ht (fun h => kt h p e s m args below meth c Q C K H locs ls hl hP hS) (fun h => kf h p e s m args below meth c Q C K H locs ls hl hP hS)
theorem j_goto {off : Int} {tgt : Nat} (hd : decode cc pc = .ok (.goto off, 3)) (ht : (pc : Int) + off = (tgt : Int)) (kk : JW G X cc own tgt lv st V S) : JW G X cc own pc lv st V S :=
  fun p e s m args below meth c Q C K H locs ls hl hP hS => lv_goto C.1 C.2.1 hd ht (kk p e s m args below meth c Q C K H locs ls hl hP hS)
theorem j_tableOut {dflt lo hi : Int} {offs : Array Int} {len : Nat} {x : Int32} {tgt : Nat} (hd : decode cc pc = .ok (.tableswitch dflt lo hi offs, len)) (h : x.toInt < lo ∨ hi < x.toInt) (ht : (pc : Int) + dflt = (tgt : Int)) (kk : JW G X cc own tgt lv st V S) : JW G X cc own pc lv (.int x :: st) V S :=
  fun p e s m args below meth c Q C K H locs ls hl hP hS => lv_tableOut C.1 C.2.1 hd h ht (kk p e s m args below meth c Q C K H locs ls hl hP hS)
theorem j_tableIn {dflt lo hi : Int} {offs : Array Int} {len : Nat} {x : Int32} {off : Int} {tgt : Nat} (hd : decode cc pc = .ok (.tableswitch dflt lo hi offs, len)) (h1 : ¬ x.toInt < lo) (h2 : ¬ hi < x.toInt) (ho : offs[(x.toInt - lo).toNat]? = some off) (ht : (pc : Int) + off = (tgt : Int)) (kk : JW G X cc own tgt lv st V S) : JW G X cc own pc lv (.int x :: st) V S :=
  fun p e s m args below meth c Q C K H locs ls hl hP hS => lv_tableIn C.1 C.2.1 hd h1 h2 ho ht (kk p e s m args below meth c Q C K H locs ls hl hP hS)
/-- cell c is an int array of n places -/
def g_I (c n : Nat) : Prop := c < g_N ∧ n < 2 ^ 31 ∧ ∀ (G : g_G) (f : Nat → Nat) (z : Int64), g_E G f z c = g_int G n f
theorem g_up_row {V : g_V} {c k x : Nat} : (fun k' => nI (g_up V c k x c k')) = upd (fun k' => nI (V c k')) k (nI x) := by
  funext k'
  by_cases h : k' = k
  · simp [g_up, upd, h]
  · simp [g_up, upd, h]
theorem g_up_ne {V : g_V} {c k c' : Nat} {x : Nat} (h : c' ≠ c) : (g_up V c k x) c' = V c' := by
  funext k'
  simp [g_up, h]
theorem g_upL_self {S : g_L} {c : Nat} {x : Int64} : g_upL S c x c = x := if_pos rfl
theorem g_upL_ne {S : g_L} {c c' : Nat} {x : Int64} (h : c' ≠ c) : g_upL S c x c' = S c' := if_neg h
theorem j_iald {cl n : Nat} {i : Nat} (hd : decode cc pc = .ok (.iaload, 1)) (hc : g_I cl n) (hi : i < n) (kk : JW G X cc own (pc + 1) lv (.int (nI (V cl i)) :: st) V S) : JW G X cc own pc lv (.int (nI i) :: .ref (g_a G cl) :: st) V S := by
  intro p e s m args below meth c Q C K H locs ls hl hP hS
  have := va_iald (i := nI i) (f := fun k => nI (V cl k)) C.1 C.2.1 C.2.2.2.2.1 hP cl 0 (by rw [g_W_get hc.1, hc.2.2]; rfl) rfl (vp_in_nI hi hc.2.1) hd (rest := st) (by have h := (kk p e s m args below meth c Q C K H locs ls hl hP hS); rw [nI_clamp (by have := hc.2.1; omega)]; exact h)
  exact this
theorem j_alen {cl n : Nat} (hd : decode cc pc = .ok (.arraylength, 1)) (hc : g_I cl n) (kk : JW G X cc own (pc + 1) lv (.int (nI n) :: st) V S) : JW G X cc own pc lv (.ref (g_a G cl) :: st) V S :=
  fun p e s m args below meth c Q C K H locs ls hl hP hS => va_alen C.1 C.2.1 C.2.2.2.2.1 hP cl 0 (x := (n, .inl (fun k => nI (V cl k)))) (by rw [g_W_get hc.1, hc.2.2]; rfl) (ty := .int) rfl rfl hd (kk p e s m args below meth c Q C K H locs ls hl hP hS)
theorem j_iast {cl n : Nat} {i x : Nat} (hd : decode cc pc = .ok (.iastore, 1)) (hc : g_I cl n) (hi : i < n) (kk : JW G X cc own (pc + 1) lv st (g_up V cl i x) S) : JW G X cc own pc lv (.int (nI x) :: .int (nI i) :: .ref (g_a G cl) :: st) V S :=
  fun p e s m args below meth c Q C K H locs ls hl hP hS => va_iast C.1 C.2.1 C.2.2.2.2.1 hP (g_D C.2.2.2.2.2.1 C.2.2.2.2.2.2.1 V S) hS cl 0 (f := fun k => nI (V cl k)) (by rw [g_W_get hc.1, hc.2.2]; rfl) rfl (vp_in_nI hi hc.2.1) hd (fun H1 locs1 hP1 hD1 hS1 => kk p e s m args below meth c Q C K H1 locs1 ls hl (by
    rw [nI_clamp (by have := hc.2.1; omega), g_W_set (V' := g_up V cl i x) (S' := S) (fun c' h => ⟨g_up_ne h, rfl⟩) (by rw [hc.2.2, ← g_up_row]; rfl)] at hP1
    exact hP1) hS1)
theorem j_zald {i : Nat} (hd : decode cc pc = .ok (.baload, 1)) (hi : i < 2) (kk : JW G X cc own (pc + 1) lv (.int (nI (V 211 i)) :: st) V S) : JW G X cc own pc lv (.int (nI i) :: .ref (g_a G 211) :: st) V S := by
  intro p e s m args below meth c Q C K H locs ls hl hP hS
  exact va_zald (i := nI i) C.1 C.2.1 C.2.2.2.2.1 hP 211 1 (f := fun k => nI (V 211 k)) (by rw [g_W_get (by decide)]; rfl) rfl (vp_in_nI hi (by decide)) hd (by have h := (kk p e s m args below meth c Q C K H locs ls hl hP hS); rw [nI_clamp (by omega)]; exact h)
theorem j_zast {i x : Nat} (hd : decode cc pc = .ok (.bastore, 1)) (hi : i < 2) (hx : vp_nar .boolean (nI x) = nI x) (kk : JW G X cc own (pc + 1) lv st (g_up V 211 i x) S) : JW G X cc own pc lv (.int (nI x) :: .int (nI i) :: .ref (g_a G 211) :: st) V S :=
  fun p e s m args below meth c Q C K H locs ls hl hP hS => va_zast C.1 C.2.1 C.2.2.2.2.1 hP (g_D C.2.2.2.2.2.1 C.2.2.2.2.2.2.1 V S) hS 211 1 (f := fun k => nI (V 211 k)) (by rw [g_W_get (by decide)]; rfl) rfl (vp_in_nI hi (by decide)) hd (fun H1 locs1 hP1 hD1 hS1 => kk p e s m args below meth c Q C K H1 locs1 ls hl (by
    rw [hx, nI_clamp (by omega), g_W_set (V' := g_up V 211 i x) (S' := S) (fun c' h => ⟨g_up_ne h, rfl⟩) (by rw [← g_up_row]; rfl)] at hP1
    exact hP1) hS1)
/-- past (6) and slots (7) -/
theorem j_aald6 {i : Nat} (hd : decode cc pc = .ok (.aaload, 1)) (hi : i < 14) (kk : JW G X cc own (pc + 1) lv (.ref (g_a G (hB (1 + i))) :: st) V S) : JW G X cc own pc lv (.int (nI i) :: .ref (g_a G 6) :: st) V S :=
  fun p e s m args below meth c Q C K H locs ls hl hP hS => va_aldq C.1 C.2.1 C.2.2.2.2.1 hP 6 2 (f := fun k => some (g_a G (hB (1 + k)))) (by rw [g_W_get (by decide)]; rfl) rfl (vp_in_nI hi (by decide)) hd (by have h := (kk p e s m args below meth c Q C K H locs ls hl hP hS); rw [nI_clamp (by omega)]; exact h)
theorem j_aald7 {i : Nat} (hd : decode cc pc = .ok (.aaload, 1)) (hi : i < 2) (kk : JW G X cc own (pc + 1) lv (.ref (g_a G (hB (15 + i))) :: st) V S) : JW G X cc own pc lv (.int (nI i) :: .ref (g_a G 7) :: st) V S :=
  fun p e s m args below meth c Q C K H locs ls hl hP hS => va_aldq C.1 C.2.1 C.2.2.2.2.1 hP 7 2 (f := fun k => some (g_a G (hB (15 + k)))) (by rw [g_W_get (by decide)]; rfl) rfl (vp_in_nI hi (by decide)) hd (by have h := (kk p e s m args below meth c Q C K H locs ls hl hP hS); rw [nI_clamp (by omega)]; exact h)
/-- the rows of owed of the j-th Held -/
theorem j_aaldO {j : Nat} {i : Nat} (hd : decode cc pc = .ok (.aaload, 1)) (hj : j < 17) (hi : i < 6) (kk : JW G X cc own (pc + 1) lv (.ref (g_a G (hB j + (5 + i))) :: st) V S) : JW G X cc own pc lv (.int (nI i) :: .ref (g_a G (hB j + 4)) :: st) V S := by
  intro p e s m args below meth c Q C K H locs ls hl hP hS
  have ha : (g_W G V S)[hB j + 4]? = some (g_a G (hB j + 4), .inl (G.2.1.2.2.2, 6, .inr (.inr (.inr (.inr (fun k => some (g_a G (hB j + (5 + k))))))))) := by
    rw [g_W_get (hB_lt hj (by decide)), g_E_held hj (by decide)]; rfl
  have hc : (nI i).toNatClampNeg = i := nI_clamp (by omega)
  exact W.aald (v := .ref (g_a G (hB j + (5 + i)))) (ty := .array .int) C.1 C.2.1 (hP _ _ ha) ((C.2.2.2.2.1.2 3 _ rfl).1 6 (fun k => va_rf (some (g_a G (hB j + (5 + k)))))) rfl (fun q => by cases q) (by show ¬ (nI i < 0 ∨ (arrV _ _ _).slots.size ≤ _); rw [arrV_size]; exact vp_in_nI (N := 6) hi (by decide)) (by show (arrV _ _ _).slots[_]? = _; rw [arrV_read _ _ (by rw [hc]; exact hi), hc]; rfl) rfl rfl hd (kk p e s m args below meth c Q C K H locs ls hl hP hS)
/-- the two tables of the class -/
theorem j_tG {i : Nat} (hd : decode cc pc = .ok (.iaload, 1)) (hi : i < 5) (kk : JW G X cc own (pc + 1) lv (.int (nI (g_great i)) :: st) V S) : JW G X cc own pc lv (.int (nI i) :: .ref G.2.2.2.1 :: st) V S :=
  fun p e s m args below meth c Q C K H locs ls hl hP hS => va_ti C.1 C.2.1 C.2.2.2.2.2.2.2.1.1.2 hS (vp_in_nI hi (by decide)) (by rw [nI_clamp (by omega)]) hd (kk p e s m args below meth c Q C K H locs ls hl hP hS)
theorem j_tO {i : Nat} (hd : decode cc pc = .ok (.iaload, 1)) (hi : i < 7) (kk : JW G X cc own (pc + 1) lv (.int (nI (g_ord i)) :: st) V S) : JW G X cc own pc lv (.int (nI i) :: .ref G.2.2.2.2 :: st) V S :=
  fun p e s m args below meth c Q C K H locs ls hl hP hS => va_ti C.1 C.2.1 C.2.2.2.2.2.2.2.1.2.2 hS (vp_in_nI hi (by decide)) (by rw [nI_clamp (by omega)]) hd (kk p e s m args below meth c Q C K H locs ls hl hP hS)
theorem j_alenG (hd : decode cc pc = .ok (.arraylength, 1)) (kk : JW G X cc own (pc + 1) lv (.int (nI 5) :: st) V S) : JW G X cc own pc lv (.ref G.2.2.2.1 :: st) V S := by
  intro p e s m args below meth c Q C K H locs ls hl hP hS
  obtain ⟨cell, h1, h2, h3, h4, h5, h6, h7⟩ := C.2.2.2.2.2.2.2.1.1.2
  exact W.alen (n := nI 5) C.1 C.2.1 (by rw [hS.2.1 _ (Array.getElem?_eq_some_iff.mp h1).1 h7]; exact h1) h2 h5 rfl rfl hd (kk p e s m args below meth c Q C K H locs ls hl hP hS)
/-! rows over numbers -/
theorem nI_mul (a b : Nat) : nI a * nI b = nI (a * b) := (Int32.ofNat_mul a b).symm
theorem nI_sub {a b : Nat} (h : b ≤ a) : nI a - nI b = nI (a - b) := by
  have : nI a = nI (a - b) + nI b := by rw [nI_add, Nat.sub_add_cancel h]
  rw [this, Int32.add_sub_cancel]
theorem nI_and (a b : Nat) : nI a &&& nI b = nI (a &&& b) := by
  apply Int32.toBitVec_inj.1
  show BitVec.ofNat 32 a &&& BitVec.ofNat 32 b = BitVec.ofNat 32 (a &&& b)
  apply BitVec.eq_of_getLsbD_eq
  intro i hi
  simp [hi]
theorem nI_or (a b : Nat) : nI a ||| nI b = nI (a ||| b) := by
  apply Int32.toBitVec_inj.1
  show BitVec.ofNat 32 a ||| BitVec.ofNat 32 b = BitVec.ofNat 32 (a ||| b)
  apply BitVec.eq_of_getLsbD_eq
  intro i hi
  simp [hi]
theorem nI_xor (a b : Nat) : nI a ^^^ nI b = nI (a ^^^ b) := by
  apply Int32.toBitVec_inj.1
  show BitVec.ofNat 32 a ^^^ BitVec.ofNat 32 b = BitVec.ofNat 32 (a ^^^ b)
  apply BitVec.eq_of_getLsbD_eq
  intro i hi
  simp [hi]
theorem nI_s : ∀ n, n < 32 → ((nI n &&& 31).toBitVec.smod 32).toNat = n := by decide +kernel
theorem nI_shl (a : Nat) {k : Nat} (hk : k < 32) : nI a <<< (nI k &&& 31) = nI (a <<< k) := by
  apply Int32.toBitVec_inj.1
  rw [Int32.toBitVec_shiftLeft]
  show BitVec.ofNat 32 a <<< ((nI k &&& 31).toBitVec.smod 32).toNat = BitVec.ofNat 32 (a <<< k)
  rw [nI_s k hk]
  apply BitVec.eq_of_toNat_eq
  rw [BitVec.toNat_shiftLeft, BitVec.toNat_ofNat, BitVec.toNat_ofNat, Nat.shiftLeft_eq, Nat.shiftLeft_eq, Nat.mod_mul_mod]
theorem nI_shr {a k : Nat} (ha : a < 2 ^ 31) (hk : k < 32) : nI a >>> (nI k &&& 31) = nI (a >>> k) := by
  apply Int32.toBitVec_inj.1
  rw [Int32.toBitVec_shiftRight]
  show (BitVec.ofNat 32 a).sshiftRight ((nI k &&& 31).toBitVec.smod 32).toNat = BitVec.ofNat 32 (a >>> k)
  rw [nI_s k hk]
  have e : (BitVec.ofNat 32 a).toNat = a := by
    rw [BitVec.toNat_ofNat]
    exact Nat.mod_eq_of_lt (by omega)
  have hm : (BitVec.ofNat 32 a).msb = false := by
    rw [BitVec.msb_eq_decide, e]
    exact decide_eq_false (by show ¬ 2 ^ 31 ≤ a; omega)
  rw [BitVec.sshiftRight_eq_of_msb_false hm]
  apply BitVec.eq_of_toNat_eq
  rw [BitVec.toNat_ushiftRight, e, BitVec.toNat_ofNat]
  have h2 : a >>> k ≤ a := by rw [Nat.shiftRight_eq_div_pow]; exact Nat.div_le_self _ _
  exact (Nat.mod_eq_of_lt (by omega)).symm
theorem nI_div {a b : Nat} (ha : a < 2 ^ 31) (hb : b < 2 ^ 31) : nI a / nI b = nI (a / b) := by
  apply Int32.toInt_inj.mp
  have e : (-1 : Int32).toInt = -1 := by decide
  rw [Int32.toInt_div_of_ne_right _ _ (fun h => by have h1 := nI_toInt hb; rw [h, e] at h1; omega), nI_toInt ha, nI_toInt hb, nI_toInt (Nat.lt_of_le_of_lt (Nat.div_le_self _ _) ha)]
  exact (Int.ofNat_tdiv a b).symm
theorem nI_rem {a b : Nat} (ha : a < 2 ^ 31) (hb : b < 2 ^ 31) : nI a - nI a / nI b * nI b = nI (a % b) := by
  rw [nI_div ha hb, nI_mul, nI_sub (Nat.div_mul_le_self a b)]
  congr 1
  have := Nat.div_add_mod a b
  rw [Nat.mul_comm] at this
  omega
theorem j_iconstN {n : Int} {k : Nat} (hd : decode cc pc = .ok (.iconst n, 1)) (hv : Int32.ofInt n = nI k) (kk : JW G X cc own (pc + 1) lv (.int (nI k) :: st) V S) : JW G X cc own pc lv st V S :=
  fun p e s m args below meth c Q C K H locs ls hl hP hS => lv_iconst C.1 C.2.1 hd hv (kk p e s m args below meth c Q C K H locs ls hl hP hS)
theorem j_bipushN {n : Int} {k : Nat} (hd : decode cc pc = .ok (.bipush n, 2)) (hv : (Int8.ofInt n).toInt32 = nI k) (kk : JW G X cc own (pc + 2) lv (.int (nI k) :: st) V S) : JW G X cc own pc lv st V S :=
  fun p e s m args below meth c Q C K H locs ls hl hP hS => lv_bipush C.1 C.2.1 hd hv (kk p e s m args below meth c Q C K H locs ls hl hP hS)
theorem j_sipushN {n : Int} {k : Nat} (hd : decode cc pc = .ok (.sipush n, 3)) (hv : (Int16.ofInt n).toInt32 = nI k) (kk : JW G X cc own (pc + 3) lv (.int (nI k) :: st) V S) : JW G X cc own pc lv st V S :=
  fun p e s m args below meth c Q C K H locs ls hl hP hS => lv_sipush C.1 C.2.1 hd hv (kk p e s m args below meth c Q C K H locs ls hl hP hS)
theorem j_iaddN {a b : Nat} (hd : decode cc pc = .ok (.iadd, 1)) (kk : JW G X cc own (pc + 1) lv (.int (nI (a + b)) :: st) V S) : JW G X cc own pc lv (.int (nI b) :: .int (nI a) :: st) V S :=
  j_iadd hd (by rw [nI_add a b]; exact kk)
theorem j_imulN {a b : Nat} (hd : decode cc pc = .ok (.imul, 1)) (kk : JW G X cc own (pc + 1) lv (.int (nI (a * b)) :: st) V S) : JW G X cc own pc lv (.int (nI b) :: .int (nI a) :: st) V S :=
  j_imul hd (by rw [nI_mul a b]; exact kk)
theorem j_iandN {a b : Nat} (hd : decode cc pc = .ok (.iand, 1)) (kk : JW G X cc own (pc + 1) lv (.int (nI (a &&& b)) :: st) V S) : JW G X cc own pc lv (.int (nI b) :: .int (nI a) :: st) V S :=
  j_iand hd (by rw [nI_and a b]; exact kk)
theorem j_iorN {a b : Nat} (hd : decode cc pc = .ok (.ior, 1)) (kk : JW G X cc own (pc + 1) lv (.int (nI (a ||| b)) :: st) V S) : JW G X cc own pc lv (.int (nI b) :: .int (nI a) :: st) V S :=
  j_ior hd (by rw [nI_or a b]; exact kk)
theorem j_ixorN {a b : Nat} (hd : decode cc pc = .ok (.ixor, 1)) (kk : JW G X cc own (pc + 1) lv (.int (nI (a ^^^ b)) :: st) V S) : JW G X cc own pc lv (.int (nI b) :: .int (nI a) :: st) V S :=
  j_ixor hd (by rw [nI_xor a b]; exact kk)
theorem j_isubN {a b : Nat} (hd : decode cc pc = .ok (.isub, 1)) (h : b ≤ a) (kk : JW G X cc own (pc + 1) lv (.int (nI (a - b)) :: st) V S) : JW G X cc own pc lv (.int (nI b) :: .int (nI a) :: st) V S :=
  j_isub hd (by rw [nI_sub h]; exact kk)
theorem j_ishlN {a b : Nat} (hd : decode cc pc = .ok (.ishl, 1)) (h : b < 32) (kk : JW G X cc own (pc + 1) lv (.int (nI (a <<< b)) :: st) V S) : JW G X cc own pc lv (.int (nI b) :: .int (nI a) :: st) V S :=
  j_ishl hd (by rw [nI_shl a h]; exact kk)
theorem j_ishrN {a b : Nat} (hd : decode cc pc = .ok (.ishr, 1)) (h : a < 2 ^ 31) (h2 : b < 32) (kk : JW G X cc own (pc + 1) lv (.int (nI (a >>> b)) :: st) V S) : JW G X cc own pc lv (.int (nI b) :: .int (nI a) :: st) V S :=
  j_ishr hd (by rw [nI_shr h h2]; exact kk)
theorem j_idivN {a b : Nat} (hd : decode cc pc = .ok (.idiv, 1)) (h : a < 2 ^ 31) (h2 : b < 2 ^ 31) (h0 : 0 < b) (kk : JW G X cc own (pc + 1) lv (.int (nI (a / b)) :: st) V S) : JW G X cc own pc lv (.int (nI b) :: .int (nI a) :: st) V S :=
  j_idiv hd (nI_ne0 h0 h2) (by rw [nI_div h h2]; exact kk)
theorem j_iremN {a b : Nat} (hd : decode cc pc = .ok (.irem, 1)) (h : a < 2 ^ 31) (h2 : b < 2 ^ 31) (h0 : 0 < b) (kk : JW G X cc own (pc + 1) lv (.int (nI (a % b)) :: st) V S) : JW G X cc own pc lv (.int (nI b) :: .int (nI a) :: st) V S :=
  j_irem hd (nI_ne0 h0 h2) (by rw [nI_rem h h2]; exact kk)
theorem j_iincN {i : Nat} {n : Int} {a k : Nat} (hd : decode cc pc = .ok (.iinc i n, 3)) (hv : lv[i]? = some (some (.int (nI a)))) (hx : Int32.ofInt n = nI k) (hs : g_set i (.int (nI (a + k))) lv lv') (kk : JW G X cc own (pc + 3) lv' st V S) : JW G X cc own pc lv st V S :=
  j_iinc hd hv (by rw [hx, nI_add]) hs kk
theorem j_iincM {i : Nat} {n : Int} {a k : Nat} (hd : decode cc pc = .ok (.iinc i n, 3)) (hv : lv[i]? = some (some (.int (nI a)))) (hx : Int32.ofInt n = - nI k) (hk : k ≤ a) (hs : g_set i (.int (nI (a - k))) lv lv') (kk : JW G X cc own (pc + 3) lv' st V S) : JW G X cc own pc lv st V S :=
  j_iinc hd hv (by rw [hx, ← Int32.sub_eq_add_neg, nI_sub hk]) hs kk
theorem j_icmp_eqN {a b : Nat} {off : Int} {tgt : Nat} (hd : decode cc pc = .ok (.if_icmp .eq off, 3)) (ht : (pc : Int) + off = (tgt : Int)) (ha : a < 2 ^ 31) (hb : b < 2 ^ 31) (kt : a = b → JW G X cc own tgt lv st V S) (kf : ¬ a = b → JW G X cc own (pc + 3) lv st V S) : JW G X cc own pc lv (.int (nI b) :: .int (nI a) :: st) V S :=
  j_icmp_eq hd ht (fun h => kt ((nI_eq ha hb).mp h)) (fun h => kf (fun q => h ((nI_eq ha hb).mpr q)))
theorem j_icmp_neN {a b : Nat} {off : Int} {tgt : Nat} (hd : decode cc pc = .ok (.if_icmp .ne off, 3)) (ht : (pc : Int) + off = (tgt : Int)) (ha : a < 2 ^ 31) (hb : b < 2 ^ 31) (kt : ¬ a = b → JW G X cc own tgt lv st V S) (kf : a = b → JW G X cc own (pc + 3) lv st V S) : JW G X cc own pc lv (.int (nI b) :: .int (nI a) :: st) V S :=
  j_icmp_ne hd ht (fun h => kt (fun q => h ((nI_eq ha hb).mpr q))) (fun h => kf ((nI_eq ha hb).mp h))
theorem j_icmp_ltN {a b : Nat} {off : Int} {tgt : Nat} (hd : decode cc pc = .ok (.if_icmp .lt off, 3)) (ht : (pc : Int) + off = (tgt : Int)) (ha : a < 2 ^ 31) (hb : b < 2 ^ 31) (kt : a < b → JW G X cc own tgt lv st V S) (kf : b ≤ a → JW G X cc own (pc + 3) lv st V S) : JW G X cc own pc lv (.int (nI b) :: .int (nI a) :: st) V S :=
  j_icmp_lt hd ht (fun h => kt ((nI_ltI ha hb).mp h)) (fun h => kf (Nat.not_lt.mp fun q => h ((nI_ltI ha hb).mpr q)))
theorem j_icmp_geN {a b : Nat} {off : Int} {tgt : Nat} (hd : decode cc pc = .ok (.if_icmp .ge off, 3)) (ht : (pc : Int) + off = (tgt : Int)) (ha : a < 2 ^ 31) (hb : b < 2 ^ 31) (kt : b ≤ a → JW G X cc own tgt lv st V S) (kf : a < b → JW G X cc own (pc + 3) lv st V S) : JW G X cc own pc lv (.int (nI b) :: .int (nI a) :: st) V S :=
  j_icmp_ge hd ht (fun h => kt ((nI_leI hb ha).mp h)) (fun h => kf (Nat.not_le.mp fun q => h ((nI_leI hb ha).mpr q)))
theorem j_icmp_gtN {a b : Nat} {off : Int} {tgt : Nat} (hd : decode cc pc = .ok (.if_icmp .gt off, 3)) (ht : (pc : Int) + off = (tgt : Int)) (ha : a < 2 ^ 31) (hb : b < 2 ^ 31) (kt : b < a → JW G X cc own tgt lv st V S) (kf : a ≤ b → JW G X cc own (pc + 3) lv st V S) : JW G X cc own pc lv (.int (nI b) :: .int (nI a) :: st) V S :=
  j_icmp_gt hd ht (fun h => kt ((nI_ltI hb ha).mp h)) (fun h => kf (Nat.not_lt.mp fun q => h ((nI_ltI hb ha).mpr q)))
theorem j_icmp_leN {a b : Nat} {off : Int} {tgt : Nat} (hd : decode cc pc = .ok (.if_icmp .le off, 3)) (ht : (pc : Int) + off = (tgt : Int)) (ha : a < 2 ^ 31) (hb : b < 2 ^ 31) (kt : a ≤ b → JW G X cc own tgt lv st V S) (kf : b < a → JW G X cc own (pc + 3) lv st V S) : JW G X cc own pc lv (.int (nI b) :: .int (nI a) :: st) V S :=
  j_icmp_le hd ht (fun h => kt ((nI_leI ha hb).mp h)) (fun h => kf (Nat.not_le.mp fun q => h ((nI_leI ha hb).mpr q)))
theorem j_if_eqN {a : Nat} {off : Int} {tgt : Nat} (hd : decode cc pc = .ok (.ifCond .eq off, 3)) (ht : (pc : Int) + off = (tgt : Int)) (ha : a < 2 ^ 31) (kt : a = 0 → JW G X cc own tgt lv st V S) (kf : ¬ a = 0 → JW G X cc own (pc + 3) lv st V S) : JW G X cc own pc lv (.int (nI a) :: st) V S :=
  j_if_eq hd ht (fun h => kt ((nI_eq ha (by decide)).mp h)) (fun h => kf (fun q => h ((nI_eq ha (by decide)).mpr q)))
theorem j_if_neN {a : Nat} {off : Int} {tgt : Nat} (hd : decode cc pc = .ok (.ifCond .ne off, 3)) (ht : (pc : Int) + off = (tgt : Int)) (ha : a < 2 ^ 31) (kt : ¬ a = 0 → JW G X cc own tgt lv st V S) (kf : a = 0 → JW G X cc own (pc + 3) lv st V S) : JW G X cc own pc lv (.int (nI a) :: st) V S :=
  j_if_ne hd ht (fun h => kt (fun q => h ((nI_eq ha (by decide)).mpr q))) (fun h => kf ((nI_eq ha (by decide)).mp h))
end JWR
end
section
/-! Contracts over the world, a method's head and its ends, calls. -/
def g_rm (d : Nat) : Room := { frames := d, cells := 0, slots := 0, locals := 33 * d }
def lw_good : List Cond := lw_use.filter goodWord
theorem lw_split : ∀ w ∈ lw_use, goodWord w = true ∨ g_nest w = true := fun w hw => by
  have h := (List.mem_filter.mp hw).2
  unfold g_usable at h
  exact (Bool.or_eq_true _ _).mp h
def g_Nw (U : State) : Prop := ∀ w ∈ lw_use, g_nest w = true → va_Nw w U
theorem g_nest_on {w : Cond} (h : g_nest w = true) : w.onTables = true := by
  cases w <;> first | rfl | cases h
theorem g_Nw.warm {s U : State} (hW : s.WarmedH U.vm) (h : g_Nw s) : g_Nw U := by
  intro w hw hn
  have hz := h w hw hn
  cases w <;> first | exact va_Nw.warmF hW hz | exact va_Nw.warmM hW hz | cases hn
theorem g_Nw.same {s U : State} (hv : s.vm = U.vm) (h : g_Nw s) : g_Nw U := fun w hw hn => va_Nw.same (g_nest_on hn) hv (h w hw hn)
def g_B (G : g_G) (V : g_V) (S : g_L) (U : State) : Prop := va_P G.1 g_cl (g_W G V S) U.heap ∧ va_K G.1 g_cl (g_tys G) U ∧ g_inj G ∧ g_St G (g_A G) U U.heap ∧ g_Nw U
def g_Q (G : g_G) (A : Nat → Prop) (post : Option Value → g_V → g_L → Prop) : Array Value → State → Outcome → State → Prop := fun _ s oc t =>
  (∃ (r : Option Value) (V : g_V) (S : g_L), oc = .returned r ∧ post r V S ∧ va_P G.1 g_cl (g_W G V S) t.heap) ∧ va_F A s t
/-- THE CONTRACT: method y, called with av over the world V, S, ends with an answer and a world that post says -/
def g_C (G : g_G) (l : Launch) (y : MethodName) (cc : ByteArray) (maxL : Nat) (ret : Option FieldType) (d : Nat) (av : List Value) (V : g_V) (S : g_L) (post : Option Value → g_V → g_L → Prop) : Prop :=
  Met l y (Cond.code y cc maxL ret :: lw_good) (g_rm d) (va_Pc av (g_B G V S)) (g_Q G (g_A G) post) 0 0 (g_A G)
def g_M (G : g_G) (l : Launch) (d : Nat) (ret : Option FieldType) (post : Option Value → g_V → g_L → Prop) : g_X :=
  (l, g_rm d, ret, g_A G, (0, 0), fun _ _ s _ args below _ _ Q => Q = MQ below (g_Q G (g_A G) post) args s 0 0 (g_A G))
theorem g_C.of {G : g_G} {l : Launch} {y : MethodName} {cc : ByteArray} {maxL : Nat} {ret : Option FieldType} {d : Nat} {av : List Value} {V : g_V} {S : g_L} {post : Option Value → g_V → g_L → Prop} {own : String} {lv : List (Option Value)}
    (hy : plainName y.cls = true) (hn : y.cls = own) (hl0 : g_ix 0 lv = lv_args 0 av) (hlen : lv.length = maxL) (hs : (lg_sl av).length ≤ maxL)
    (k : JW G (g_M G l d ret post) cc own 0 lv [] V S) : g_C G l y cc maxL ret d av V S post := by
  refine Met.ofW (cc := cc) (maxL := maxL) (ret := ret) hy rfl ?_
  intro p e s m args below meth c s₁ B hml hv
  obtain ⟨rfl, hP, hK, hi, hSt, hNw⟩ := hv
  have hts := atoms_spec (ws := Cond.code y cc maxL ret :: lw_good) B.pre
  have hown : s.vm.findClass y.cls = some m.cls := findClass_of_methodNamed B.named
  subst hn
  have hw : ∀ w ∈ lw_use, w.before av.toArray s = true := fun w hw => by
    rcases lw_split w hw with h | h
    · exact hts w (List.mem_cons_of_mem _ (List.mem_filter.mpr ⟨hw, h⟩))
    · exact va_Nw.use (g_nest_on h) (hNw w hw h)
  have hl := lv_entry av hs
  rw [lg_entry_eq]
  refine k p e s m _ below meth c _ ⟨B.exec, B.bytes, hown, hw, hK, hi, fun c h => ⟨c, h, rfl⟩, hSt, B.notSynchronized, B.returns⟩ rfl s.heap [] _ ⟨?_, by rw [hml]; exact hlen⟩ hP va_S.rf
  rw [hl0, hml]
  exact hl
section CTR
variable {G : g_G} {X : g_X} {cc : ByteArray} {own : String} {pc : Nat} {lv lv' : List (Option Value)} {st : List Value} {V : g_V} {S : g_L} {l : Launch} {d : Nat} {post : Option Value → g_V → g_L → Prop}
theorem j_iret {v : Int32} (hd : decode cc pc = .ok (.ireturn, 1)) (h : post (some (.int v)) V S) : JW G (g_M G l d (some .int) post) cc own pc lv [.int v] V S := by
  intro p e s m args below meth c Q C K H locs ls hl hP hS
  cases K
  exact W.iret C.1 C.2.1 C.2.2.2.2.2.2.2.2.2 (fun t ht _ => ⟨⟨_, V, S, rfl, h, by rw [ht]; exact hP⟩, hS.F ht⟩) hS.2.2 hd C.2.2.2.2.2.2.2.2.1
theorem j_zret {v : Int32} (hd : decode cc pc = .ok (.ireturn, 1)) (hv : narrow .boolean (.int v) = .int v) (h : post (some (.int v)) V S) : JW G (g_M G l d (some .boolean) post) cc own pc lv [.int v] V S := by
  intro p e s m args below meth c Q C K H locs ls hl hP hS
  cases K
  exact W.zret C.1 C.2.1 C.2.2.2.2.2.2.2.2.2 hv (fun t ht _ => ⟨⟨_, V, S, rfl, h, by rw [ht]; exact hP⟩, hS.F ht⟩) hS.2.2 hd C.2.2.2.2.2.2.2.2.1
theorem j_lret {v : Int64} (hd : decode cc pc = .ok (.lreturn, 1)) (h : post (some (.long v)) V S) : JW G (g_M G l d (some .long) post) cc own pc lv [.long v] V S := by
  intro p e s m args below meth c Q C K H locs ls hl hP hS
  cases K
  exact W.lret C.1 C.2.1 C.2.2.2.2.2.2.2.2.2 (fun t ht _ => ⟨⟨_, V, S, rfl, h, by rw [ht]; exact hP⟩, hS.F ht⟩) hS.2.2 hd C.2.2.2.2.2.2.2.2.1
theorem j_vret (hd : decode cc pc = .ok (.return_, 1)) (h : post none V S) : JW G (g_M G l d none post) cc own pc lv [] V S := by
  intro p e s m args below meth c Q C K H locs ls hl hP hS
  cases K
  exact W.vret C.1 C.2.1 C.2.2.2.2.2.2.2.2.2 (fun t ht _ => ⟨⟨_, V, S, rfl, h, by rw [ht]; exact hP⟩, hS.F ht⟩) hS.2.2 hd C.2.2.2.2.2.2.2.2.1
/-- what the callee finds -/
theorem g_B.at {p : Program} {s U : State} {m : MethodId} {args : Array Value} {meth : Method} {c : Code} {H : Heap} {locs : List Loc} (C : g_Cx G X p s m args meth c cc own) (hP : va_P G.1 g_cl (g_W G V S) H) (hS : va_S X.2.2.2.1 s.heap H locs) (hU : U.heap = H) (hW : s.WarmedH U.vm) : g_B G V S U := by
  refine ⟨by rw [hU]; exact hP, C.2.2.2.2.1.moved hW.alike, C.2.2.2.2.2.1, ?_, ?_⟩
  · have h1 := (C.2.2.2.2.2.2.2.1.kept hS.2.1).moved hW.alike
    rw [hU]
    exact h1.narrow (fun q ⟨c, h, e⟩ => e ▸ C.2.2.2.2.2.2.1 c h)
  · exact g_Nw.warm hW (fun w hw hn => va_Nw.of (g_nest_on hn) (C.2.2.2.1 w hw))
theorem g_blind {av : List Value} : FrameBlind (va_Pc av (g_B G V S)) := fun a U g mk q => by
  obtain ⟨q0, h1, h2, h3, h4, h5⟩ := q
  exact ⟨q0, h1, h2.moved (u := U) (U := U.calling g mk a) (Vm.Alike.refl U.vm), h3, h4.moved (u := U) (U := U.calling g mk a) (Vm.Alike.refl U.vm), g_Nw.same (s := U) (U := U.calling g mk a) rfl h5⟩
theorem g_ok {ws : List Cond} (h : ∀ w ∈ ws, w ∈ lw_use ∧ goodWord w = true) : GoodIn lw_use ws := fun w hw => ⟨(h w hw).1, good_of_word (h w hw).2⟩
theorem g_okc {c : Cond} (hc : c ∈ lw_use) (hg : goodWord c = true) : ∀ w ∈ (c :: lw_good), w ∈ lw_use ∧ goodWord w = true := fun w hw => by
  rcases List.mem_cons.mp hw with rfl | h
  · exact ⟨hc, hg⟩
  · exact List.mem_filter.mp h
/-- the run of a call becomes a step -/
theorem j_run {p : Program} {e : Env} {s : State} {m : MethodId} {args : Array Value} {below : List Frame} {meth : Method} {c : Code} {Q : State → Prop} {H : Heap} {locs : List Loc} {ls : Array Slot} {st0 : List Value} {post2 : Option Value → g_V → g_L → Prop} {a : Array Value}
    (C : g_Cx G X p s m args meth c cc own) (K : X.2.2.2.2.2 p e s m args below meth c Q) (hl : g_lv c ls lv) (hS : va_S X.2.2.2.1 s.heap H locs)
    (hr : va_Run p X.1 e X.2.1 s m args below meth c H locs X.2.2.2.2.1.1 X.2.2.2.2.1.2 0 0 (F0 m pc ls st0) st (g_Q G (g_A G) post2 a) (g_A G))
    (kk : ∀ (v : Option Value) (V' : g_V) (S' : g_L), post2 v V' S' → JW G X cc own (pc + 3) lv (v.toList ++ st) V' S') : W p X.1 e X.2.1 s m args below meth c H locs X.2.2.2.2.1.1 X.2.2.2.2.1.2 Q (F0 m pc ls st0) := by
  intro T hT Xs
  obtain ⟨v, st₀, t, T', L, h0, X', hL, e1, e2, ⟨⟨r, V', S', hv, hp, hb⟩, hz, hk⟩, stp⟩ := hr T hT Xs
  cases hv
  rw [h0] at hz hk
  have hAA : ∀ q, g_A G q → X.2.2.2.1 q := fun q ⟨c, h, e⟩ => e ▸ C.2.2.2.2.2.2.1 c h
  have hS' : va_S X.2.2.2.1 s.heap T'.heap (locs ++ L) := by
    refine ⟨Nat.le_trans hS.1 (by rw [e1]; exact hz), fun q h1 h2 => ?_, fun q hq => ?_⟩
    · rw [e1, hk q (Nat.lt_of_lt_of_le h1 hS.1) (fun z => h2 (hAA q z))]
      exact hS.2.1 q h1 h2
    · rcases List.mem_append.mp hq with h | h
      · exact hS.2.2 q h
      · exact hAA _ (hL q h)
  obtain ⟨t2, a1, b1⟩ := kk v V' S' hp p e s m args below meth c Q C K T'.heap (locs ++ L) ls hl (by rw [e1]; exact hb) hS' T' rfl X'
  exact ⟨t2, stp t2 a1, b1⟩
variable {y : MethodName} {bytes : ByteArray} {maxL d2 index cl ci N : Nat} {ret : Option FieldType} {As st0 : List Value} {fs : List Value} {T : u_T} {post2 : Option Value → g_V → g_L → Prop}
theorem j_callV (M : g_C G X.1 y bytes maxL ret d2 (.ref (g_a G cl) :: As) V S post2) (hd : decode cc pc = .ok (.invokevirtual index, 3)) (hst : st0 = As.reverse ++ .ref (g_a G cl) :: st)
    (hc : cl < g_N) (hE : g_E G (V cl) (S cl) cl = .inr (ci, fs)) (hcl : g_cl[ci]? = some (y.cls, T, N))
    (h1 : Cond.methodLink own index y ∈ lw_use) (h2 : Cond.instanceMethod y ∈ lw_use) (h3 : Cond.selects y.cls y y ∈ lw_use) (h4 : Cond.initialized y.cls ∈ lw_use) (h5 : Cond.code y bytes maxL ret ∈ lw_use)
    (hy : y.cls ≠ "java/lang/invoke/MethodHandle" ∧ y.cls ≠ "java/lang/invoke/VarHandle" ∧ (parseMethodDescriptor y.desc).map (fun d => d.parameters.length) = some As.length)
    (hR : d2 + 1 ≤ X.2.1.frames ∧ 8 + (maxL + 11) + 33 * d2 ≤ X.2.1.locals) (hf : X.2.2.2.2.1.1 ≤ X.2.1.cells ∧ X.2.2.2.2.1.2 ≤ X.2.1.slots) (hcat : (st.map fun v => v.category).sum ≤ 8)
    (kk : ∀ (v : Option Value) (V' : g_V) (S' : g_L), post2 v V' S' → JW G X cc own (pc + 3) lv (v.toList ++ st) V' S') : JW G X cc own pc lv st0 V S := by
  subst hst
  intro p e s m args below meth c Q C K H locs ls hl hP hS
  have hG : GoodIn lw_use (wsV own index y.cls y (Cond.code y bytes maxL ret :: lw_good)) := g_ok (fun w hw => by
    unfold wsV at hw
    rcases List.mem_append.mp hw with h | h
    · simp only [List.mem_cons, List.not_mem_nil, or_false] at h
      rcases h with rfl | rfl | rfl | rfl
      · exact ⟨h1, rfl⟩
      · exact ⟨h2, rfl⟩
      · exact ⟨h3, rfl⟩
      · exact ⟨h4, rfl⟩
    · exact g_okc h5 rfl w h)
  refine j_run C K hl hS (va_runV (As := As) (rest := st) (nL := c.maxLocals) (cc := cc) (Ts := lw_use) (own := own) ⟨C.1, C.2.1, rfl, C.2.2.1, C.2.2.2.1⟩ M (cwV As.length C.2.2.2.1 hG rfl rfl rfl ⟨rfl, hy⟩ hR) ⟨g_blind, va_recv C.2.2.2.2.1 hP hcl (by rw [g_W_get hc, hE]), fun U hU hW => ⟨rfl, g_B.at C hP hS hU hW⟩⟩ rfl rfl hl.1.1 rfl (lv_room hcat) hd hf) kk
theorem j_callS (M : g_C G X.1 y bytes maxL ret d2 As V S post2) (hd : decode cc pc = .ok (.invokestatic index, 3)) (hst : st0 = As.reverse ++ st)
    (h1 : Cond.methodLink own index y ∈ lw_use) (h2 : Cond.static y ∈ lw_use) (h4 : Cond.initialized y.cls ∈ lw_use) (h5 : Cond.code y bytes maxL ret ∈ lw_use)
    (hy : y.cls ≠ "java/lang/invoke/MethodHandle" ∧ y.cls ≠ "java/lang/invoke/VarHandle" ∧ (parseMethodDescriptor y.desc).map (fun d => d.parameters.length) = some As.length)
    (hR : d2 + 1 ≤ X.2.1.frames ∧ 8 + (maxL + 11) + 33 * d2 ≤ X.2.1.locals) (hf : X.2.2.2.2.1.1 ≤ X.2.1.cells ∧ X.2.2.2.2.1.2 ≤ X.2.1.slots) (hcat : (st.map fun v => v.category).sum ≤ 8)
    (kk : ∀ (v : Option Value) (V' : g_V) (S' : g_L), post2 v V' S' → JW G X cc own (pc + 3) lv (v.toList ++ st) V' S') : JW G X cc own pc lv st0 V S := by
  subst hst
  intro p e s m args below meth c Q C K H locs ls hl hP hS
  have hG : GoodIn lw_use (va_wsS own index y (Cond.code y bytes maxL ret :: lw_good)) := g_ok (fun w hw => by
    unfold va_wsS at hw
    rcases List.mem_append.mp hw with h | h
    · simp only [List.mem_cons, List.not_mem_nil, or_false] at h
      rcases h with rfl | rfl | rfl
      · exact ⟨h1, rfl⟩
      · exact ⟨h2, rfl⟩
      · exact ⟨h4, rfl⟩
    · exact g_okc h5 rfl w h)
  refine j_run C K hl hS (va_runS (As := As) (rest := st) (nL := c.maxLocals) (cc := cc) (Ts := lw_use) (own := own) ⟨C.1, C.2.1, rfl, C.2.2.1, C.2.2.2.1⟩ M (va_cwS As.length C.2.2.2.1 hG rfl rfl rfl hy hR) ⟨g_blind, fun U hU hW => ⟨rfl, g_B.at C hP hS hU hW⟩⟩ rfl rfl hl.1.1 rfl (lv_room hcat) hd hf) kk
theorem j_callVN {host : String} (M : g_C G X.1 y bytes maxL ret d2 (.ref (g_a G cl) :: As) V S post2) (hd : decode cc pc = .ok (.invokevirtual index, 3)) (hst : st0 = As.reverse ++ .ref (g_a G cl) :: st)
    (hc : cl < g_N) (hE : g_E G (V cl) (S cl) cl = .inr (ci, fs)) (hcl : g_cl[ci]? = some (y.cls, T, N))
    (h1 : Cond.methodLinkNest own index y host ∈ lw_use) (h2 : Cond.instanceMethod y ∈ lw_use) (h3 : Cond.selects y.cls y y ∈ lw_use) (h4 : Cond.initialized y.cls ∈ lw_use) (h5 : Cond.code y bytes maxL ret ∈ lw_use)
    (hy : y.cls ≠ "java/lang/invoke/MethodHandle" ∧ y.cls ≠ "java/lang/invoke/VarHandle" ∧ (parseMethodDescriptor y.desc).map (fun d => d.parameters.length) = some As.length)
    (hR : d2 + 1 ≤ X.2.1.frames ∧ 8 + (maxL + 11) + 33 * d2 ≤ X.2.1.locals) (hf : X.2.2.2.2.1.1 ≤ X.2.1.cells ∧ X.2.2.2.2.1.2 ≤ X.2.1.slots) (hcat : (st.map fun v => v.category).sum ≤ 8)
    (kk : ∀ (v : Option Value) (V' : g_V) (S' : g_L), post2 v V' S' → JW G X cc own (pc + 3) lv (v.toList ++ st) V' S') : JW G X cc own pc lv st0 V S := by
  subst hst
  intro p e s m args below meth c Q C K H locs ls hl hP hS
  refine j_run C K hl hS (va_runVN (As := As) (rest := st) (nL := c.maxLocals) (cc := cc) (Ts := lw_use) (own := own) ⟨C.1, C.2.1, rfl, C.2.2.1, C.2.2.2.1⟩ M ⟨va_cnB As.length C.2.2.2.1 (g_ok (g_okc h5 rfl)) rfl rfl rfl (va_Nw.of rfl (C.2.2.2.1 _ h1)) (C.2.2.2.1 _ h4) hy hR, C.2.2.2.1 _ h2, C.2.2.2.1 _ h3⟩ ⟨g_blind, va_recv C.2.2.2.2.1 hP hcl (by rw [g_W_get hc, hE]), fun U hU hW => ⟨rfl, g_B.at C hP hS hU hW⟩⟩ rfl rfl hl.1.1 rfl (lv_room hcat) hd hf) kk
theorem j_callSN {host : String} (M : g_C G X.1 y bytes maxL ret d2 As V S post2) (hd : decode cc pc = .ok (.invokestatic index, 3)) (hst : st0 = As.reverse ++ st)
    (h1 : Cond.methodLinkNest own index y host ∈ lw_use) (h2 : Cond.static y ∈ lw_use) (h4 : Cond.initialized y.cls ∈ lw_use) (h5 : Cond.code y bytes maxL ret ∈ lw_use)
    (hy : y.cls ≠ "java/lang/invoke/MethodHandle" ∧ y.cls ≠ "java/lang/invoke/VarHandle" ∧ (parseMethodDescriptor y.desc).map (fun d => d.parameters.length) = some As.length)
    (hR : d2 + 1 ≤ X.2.1.frames ∧ 8 + (maxL + 11) + 33 * d2 ≤ X.2.1.locals) (hf : X.2.2.2.2.1.1 ≤ X.2.1.cells ∧ X.2.2.2.2.1.2 ≤ X.2.1.slots) (hcat : (st.map fun v => v.category).sum ≤ 8)
    (kk : ∀ (v : Option Value) (V' : g_V) (S' : g_L), post2 v V' S' → JW G X cc own (pc + 3) lv (v.toList ++ st) V' S') : JW G X cc own pc lv st0 V S := by
  subst hst
  intro p e s m args below meth c Q C K H locs ls hl hP hS
  refine j_run C K hl hS (va_runSN (As := As) (rest := st) (nL := c.maxLocals) (cc := cc) (Ts := lw_use) (own := own) ⟨C.1, C.2.1, rfl, C.2.2.1, C.2.2.2.1⟩ M ⟨va_cnB As.length C.2.2.2.1 (g_ok (g_okc h5 rfl)) rfl rfl rfl (va_Nw.of rfl (C.2.2.2.1 _ h1)) (C.2.2.2.1 _ h4) hy hR, C.2.2.2.1 _ h2, trivial⟩ ⟨g_blind, fun U hU hW => ⟨rfl, g_B.at C hP hS hU hW⟩⟩ rfl rfl hl.1.1 rfl (lv_room hcat) hd hf) kk
/-- Math.max -/
theorem j_max {x y : Int32} (hd : decode cc pc = .ok (.invokestatic index, 3)) (h1 : Cond.methodLink own index Lib.Math.max.name ∈ lw_use) (h2 : Cond.static Lib.Math.max.name ∈ lw_use) (h4 : Cond.initialized "java/lang/Math" ∈ lw_use) (h5 : Cond.code Lib.Math.max.name Lib.Math.max.code 2 (some .int) ∈ lw_use)
    (hR : 1 ≤ X.2.1.frames ∧ 21 ≤ X.2.1.locals) (hf : X.2.2.2.2.1.1 ≤ X.2.1.cells ∧ X.2.2.2.2.1.2 ≤ X.2.1.slots) (hcat : (st.map fun v => v.category).sum ≤ 8)
    (kk : JW G X cc own (pc + 3) lv (.int (if x < y then y else x) :: st) V S) : JW G X cc own pc lv (.int y :: .int x :: st) V S :=
  fun p e s m args below meth c Q C K H locs ls hl hP hS => va_mmax C.1 C.2.1 hl.1.1.symm C.2.2.1 (C.2.2.2.1 _ h1) (C.2.2.2.1 _ h2) (C.2.2.2.1 _ h4) (C.2.2.2.1 _ h5) hR.1 (by omega) hf.1 hf.2 hd (kk p e s m args below meth c Q C K H locs ls hl hP hS)
/-- a field -/
theorem j_get {k : Nat} {Cn : String} {v : Value} (hd : decode cc pc = .ok (.getfield index, 3)) (hc : cl < g_N) (hE : g_E G (V cl) (S cl) cl = .inr (ci, fs)) (hcl : g_cl[ci]? = some (Cn, T, N)) (hin : ∀ w ∈ u_ws Cn T N, w ∈ lw_use) (hk : k < N) (hn : (T k).1 = Cn) (hw : Cond.fieldLink own index Cn (T k).2.1 (T k).2.2.1 ∈ lw_use) (hv : fs[k]? = some v)
    (kk : JW G X cc own (pc + 3) lv (v :: st) V S) : JW G X cc own pc lv (.ref (g_a G cl) :: st) V S :=
  fun p e s m args below meth c Q C K H locs ls hl hP hS => va_get C.1 C.2.1 C.2.2.2.1 hin C.2.2.1 C.2.2.2.2.1 hP cl (by rw [g_W_get hc, hE]) hcl k hk (C.2.2.2.1 _ hw) (fun x h => by rw [hn] at h; exact h) hv hd (kk p e s m args below meth c Q C K H locs ls hl hP hS)
theorem j_getN {k : Nat} {Cn host : String} {v : Value} (hd : decode cc pc = .ok (.getfield index, 3)) (hc : cl < g_N) (hE : g_E G (V cl) (S cl) cl = .inr (ci, fs)) (hcl : g_cl[ci]? = some (Cn, T, N)) (hin : ∀ w ∈ u_ws Cn T N, w ∈ lw_use) (hk : k < N) (hn : (T k).1 = Cn) (hw : Cond.fieldLinkNest own index Cn (T k).2.1 (T k).2.2.1 host ∈ lw_use) (hv : fs[k]? = some v)
    (kk : JW G X cc own (pc + 3) lv (v :: st) V S) : JW G X cc own pc lv (.ref (g_a G cl) :: st) V S :=
  fun p e s m args below meth c Q C K H locs ls hl hP hS => va_getN C.1 C.2.1 C.2.2.2.1 hin C.2.2.1 C.2.2.2.2.1 hP cl (by rw [g_W_get hc, hE]) hcl k hk (C.2.2.2.1 _ hw) (fun x h => by rw [hn] at h; exact h) hv hd (kk p e s m args below meth c Q C K H locs ls hl hP hS)
theorem j_put {k : Nat} {Cn : String} {v : Value} {ty0 : Nat → FieldType} {V' : g_V} {S' : g_L} (hd : decode cc pc = .ok (.putfield index, 3)) (hc : cl < g_N) (hE : g_E G (V cl) (S cl) cl = .inr (ci, fs)) (hcl : g_cl[ci]? = some (Cn, T, N)) (hin : ∀ w ∈ u_ws Cn T N, w ∈ lw_use) (hty : ∀ k, k < N → parseFieldDescriptor (T k).2.2.1 = some (ty0 k)) (hnm : ∀ a, a < N → ∀ b, b < N → a ≠ b → (T a).2.1 ≠ (T b).2.1) (hk : k < N) (hn : (T k).1 = Cn) (hw : Cond.fieldLink own index Cn (T k).2.1 (T k).2.2.1 ∈ lw_use) (hfin : (T k).2.2.2 = false) (hnar : narrow (ty0 k) v = v) (hfit : fits (ty0 k) v = true) (hlen : k < fs.length)
    (hV : ∀ c', c' ≠ cl → V' c' = V c' ∧ S' c' = S c') (hE' : .inr (ci, fs.set k v) = g_E G (V' cl) (S' cl) cl)
    (kk : JW G X cc own (pc + 3) lv st V' S') : JW G X cc own pc lv (v :: .ref (g_a G cl) :: st) V S :=
  fun p e s m args below meth c Q C K H locs ls hl hP hS => va_put C.1 C.2.1 C.2.2.2.1 hin ty0 hty hnm C.2.2.1 C.2.2.2.2.1 hP (g_D C.2.2.2.2.2.1 C.2.2.2.2.2.2.1 V S) hS cl (by rw [g_W_get hc, hE]) hcl k hk (C.2.2.2.1 _ hw) (fun x h => by rw [hn] at h; exact h) hfin (hty k hk) hnar hfit hlen hd (fun H1 locs1 hP1 hD1 hS1 => kk p e s m args below meth c Q C K H1 locs1 ls hl (by
    rw [g_W_set hV hE'] at hP1
    exact hP1) hS1)
theorem j_putN {k : Nat} {Cn host : String} {v : Value} {ty0 : Nat → FieldType} {V' : g_V} {S' : g_L} (hd : decode cc pc = .ok (.putfield index, 3)) (hc : cl < g_N) (hE : g_E G (V cl) (S cl) cl = .inr (ci, fs)) (hcl : g_cl[ci]? = some (Cn, T, N)) (hin : ∀ w ∈ u_ws Cn T N, w ∈ lw_use) (hty : ∀ k, k < N → parseFieldDescriptor (T k).2.2.1 = some (ty0 k)) (hnm : ∀ a, a < N → ∀ b, b < N → a ≠ b → (T a).2.1 ≠ (T b).2.1) (hk : k < N) (hn : (T k).1 = Cn) (hw : Cond.fieldLinkNest own index Cn (T k).2.1 (T k).2.2.1 host ∈ lw_use) (hfin : (T k).2.2.2 = false) (hnar : narrow (ty0 k) v = v) (hfit : fits (ty0 k) v = true) (hlen : k < fs.length)
    (hV : ∀ c', c' ≠ cl → V' c' = V c' ∧ S' c' = S c') (hE' : .inr (ci, fs.set k v) = g_E G (V' cl) (S' cl) cl)
    (kk : JW G X cc own (pc + 3) lv st V' S') : JW G X cc own pc lv (v :: .ref (g_a G cl) :: st) V S :=
  fun p e s m args below meth c Q C K H locs ls hl hP hS => va_putN C.1 C.2.1 C.2.2.2.1 hin ty0 hty hnm C.2.2.1 C.2.2.2.2.1 hP (g_D C.2.2.2.2.2.1 C.2.2.2.2.2.2.1 V S) hS cl (by rw [g_W_get hc, hE]) hcl k hk (C.2.2.2.1 _ hw) (fun x h => by rw [hn] at h; exact h) hfin (hty k hk) hnar hfit hlen hd (fun H1 locs1 hP1 hD1 hS1 => kk p e s m args below meth c Q C K H1 locs1 ls hl (by
    rw [g_W_set hV hE'] at hP1
    exact hP1) hS1)
theorem j_getsG (hd : decode cc pc = .ok (.getstatic index, 3)) (hw : Cond.fieldLink own index R_D "GREATEST" "[I" ∈ lw_use) (kk : JW G X cc own (pc + 3) lv (.ref G.2.2.2.1 :: st) V S) : JW G X cc own pc lv st V S :=
  fun p e s m args below meth c Q C K H locs ls hl hP hS => va_gets C.1 C.2.1 C.2.2.2.2.2.2.2.1.1.1 hS C.2.2.1 (C.2.2.2.1 _ hw) (fun x h => h) hd (kk p e s m args below meth c Q C K H locs ls hl hP hS)
theorem j_getsGN {host : String} (hd : decode cc pc = .ok (.getstatic index, 3)) (hw : Cond.fieldLinkNest own index R_D "GREATEST" "[I" host ∈ lw_use) (kk : JW G X cc own (pc + 3) lv (.ref G.2.2.2.1 :: st) V S) : JW G X cc own pc lv st V S :=
  fun p e s m args below meth c Q C K H locs ls hl hP hS => va_getsN C.1 C.2.1 C.2.2.2.2.2.2.2.1.1.1 hS C.2.2.1 (C.2.2.2.1 _ hw) (fun x h => h) hd (kk p e s m args below meth c Q C K H locs ls hl hP hS)
theorem j_getsO (hd : decode cc pc = .ok (.getstatic index, 3)) (hw : Cond.fieldLink own index R_D "ORDERS" "[I" ∈ lw_use) (kk : JW G X cc own (pc + 3) lv (.ref G.2.2.2.2 :: st) V S) : JW G X cc own pc lv st V S :=
  fun p e s m args below meth c Q C K H locs ls hl hP hS => va_gets C.1 C.2.1 C.2.2.2.2.2.2.2.1.2.1 hS C.2.2.1 (C.2.2.2.1 _ hw) (fun x h => h) hd (kk p e s m args below meth c Q C K H locs ls hl hP hS)
end CTR
end
section
/-! The class: names of its methods, what each instruction is. -/
abbrev b_D_init : ByteArray := prog_1_method_1_code
def y_D_init : MethodName := ⟨R_D, "<init>", "()V"⟩
theorem mc_D_init : Cond.code y_D_init b_D_init 2 none ∈ lw_use := g_use (List.mem_of_getElem? (i := 63) (by decide +kernel)) rfl
theorem d_D_init_0 : decode b_D_init 0 = .ok (.aload_n 0, 1) := by decide +kernel
theorem d_D_init_1 : decode b_D_init 1 = .ok (.invokespecial 1, 3) := by decide +kernel
theorem d_D_init_4 : decode b_D_init 4 = .ok (.aload_n 0, 1) := by decide +kernel
theorem d_D_init_5 : decode b_D_init 5 = .ok (.new 7, 3) := by decide +kernel
theorem d_D_init_8 : decode b_D_init 8 = .ok (.dup, 1) := by decide +kernel
theorem d_D_init_9 : decode b_D_init 9 = .ok (.invokespecial 9, 3) := by decide +kernel
theorem d_D_init_12 : decode b_D_init 12 = .ok (.putfield 10, 3) := by decide +kernel
theorem d_D_init_15 : decode b_D_init 15 = .ok (.aload_n 0, 1) := by decide +kernel
theorem d_D_init_16 : decode b_D_init 16 = .ok (.bipush 6, 2) := by decide +kernel
theorem d_D_init_18 : decode b_D_init 18 = .ok (.newarray .int, 2) := by decide +kernel
theorem d_D_init_20 : decode b_D_init 20 = .ok (.putfield 16, 3) := by decide +kernel
theorem d_D_init_23 : decode b_D_init 23 = .ok (.aload_n 0, 1) := by decide +kernel
theorem d_D_init_24 : decode b_D_init 24 = .ok (.bipush 6, 2) := by decide +kernel
theorem d_D_init_26 : decode b_D_init 26 = .ok (.newarray .int, 2) := by decide +kernel
theorem d_D_init_28 : decode b_D_init 28 = .ok (.putfield 20, 3) := by decide +kernel
theorem d_D_init_31 : decode b_D_init 31 = .ok (.aload_n 0, 1) := by decide +kernel
theorem d_D_init_32 : decode b_D_init 32 = .ok (.bipush 6, 2) := by decide +kernel
theorem d_D_init_34 : decode b_D_init 34 = .ok (.newarray .int, 2) := by decide +kernel
theorem d_D_init_36 : decode b_D_init 36 = .ok (.putfield 23, 3) := by decide +kernel
theorem d_D_init_39 : decode b_D_init 39 = .ok (.aload_n 0, 1) := by decide +kernel
theorem d_D_init_40 : decode b_D_init 40 = .ok (.new 26, 3) := by decide +kernel
theorem d_D_init_43 : decode b_D_init 43 = .ok (.dup, 1) := by decide +kernel
theorem d_D_init_44 : decode b_D_init 44 = .ok (.invokespecial 28, 3) := by decide +kernel
theorem d_D_init_47 : decode b_D_init 47 = .ok (.putfield 29, 3) := by decide +kernel
theorem d_D_init_50 : decode b_D_init 50 = .ok (.aload_n 0, 1) := by decide +kernel
theorem d_D_init_51 : decode b_D_init 51 = .ok (.bipush 14, 2) := by decide +kernel
theorem d_D_init_53 : decode b_D_init 53 = .ok (.anewarray 26, 3) := by decide +kernel
theorem d_D_init_56 : decode b_D_init 56 = .ok (.putfield 33, 3) := by decide +kernel
theorem d_D_init_59 : decode b_D_init 59 = .ok (.iconst 0, 1) := by decide +kernel
theorem d_D_init_60 : decode b_D_init 60 = .ok (.istore_n 1, 1) := by decide +kernel
theorem d_D_init_61 : decode b_D_init 61 = .ok (.iload_n 1, 1) := by decide +kernel
theorem d_D_init_62 : decode b_D_init 62 = .ok (.bipush 14, 2) := by decide +kernel
theorem d_D_init_64 : decode b_D_init 64 = .ok (.if_icmp .ge 22, 3) := by decide +kernel
theorem d_D_init_67 : decode b_D_init 67 = .ok (.aload_n 0, 1) := by decide +kernel
theorem d_D_init_68 : decode b_D_init 68 = .ok (.getfield 33, 3) := by decide +kernel
theorem d_D_init_71 : decode b_D_init 71 = .ok (.iload_n 1, 1) := by decide +kernel
theorem d_D_init_72 : decode b_D_init 72 = .ok (.new 26, 3) := by decide +kernel
theorem d_D_init_75 : decode b_D_init 75 = .ok (.dup, 1) := by decide +kernel
theorem d_D_init_76 : decode b_D_init 76 = .ok (.invokespecial 28, 3) := by decide +kernel
theorem d_D_init_79 : decode b_D_init 79 = .ok (.aastore, 1) := by decide +kernel
theorem d_D_init_80 : decode b_D_init 80 = .ok (.iinc 1 1, 3) := by decide +kernel
theorem d_D_init_83 : decode b_D_init 83 = .ok (.goto (-22), 3) := by decide +kernel
theorem d_D_init_86 : decode b_D_init 86 = .ok (.aload_n 0, 1) := by decide +kernel
theorem d_D_init_87 : decode b_D_init 87 = .ok (.iconst 2, 1) := by decide +kernel
theorem d_D_init_88 : decode b_D_init 88 = .ok (.anewarray 26, 3) := by decide +kernel
theorem d_D_init_91 : decode b_D_init 91 = .ok (.putfield 37, 3) := by decide +kernel
theorem d_D_init_94 : decode b_D_init 94 = .ok (.iconst 0, 1) := by decide +kernel
theorem d_D_init_95 : decode b_D_init 95 = .ok (.istore_n 1, 1) := by decide +kernel
theorem d_D_init_96 : decode b_D_init 96 = .ok (.iload_n 1, 1) := by decide +kernel
theorem d_D_init_97 : decode b_D_init 97 = .ok (.iconst 2, 1) := by decide +kernel
theorem d_D_init_98 : decode b_D_init 98 = .ok (.if_icmp .ge 22, 3) := by decide +kernel
theorem d_D_init_101 : decode b_D_init 101 = .ok (.aload_n 0, 1) := by decide +kernel
theorem d_D_init_102 : decode b_D_init 102 = .ok (.getfield 37, 3) := by decide +kernel
theorem d_D_init_105 : decode b_D_init 105 = .ok (.iload_n 1, 1) := by decide +kernel
theorem d_D_init_106 : decode b_D_init 106 = .ok (.new 26, 3) := by decide +kernel
theorem d_D_init_109 : decode b_D_init 109 = .ok (.dup, 1) := by decide +kernel
theorem d_D_init_110 : decode b_D_init 110 = .ok (.invokespecial 28, 3) := by decide +kernel
theorem d_D_init_113 : decode b_D_init 113 = .ok (.aastore, 1) := by decide +kernel
theorem d_D_init_114 : decode b_D_init 114 = .ok (.iinc 1 1, 3) := by decide +kernel
theorem d_D_init_117 : decode b_D_init 117 = .ok (.goto (-21), 3) := by decide +kernel
theorem d_D_init_120 : decode b_D_init 120 = .ok (.aload_n 0, 1) := by decide +kernel
theorem d_D_init_121 : decode b_D_init 121 = .ok (.bipush 6, 2) := by decide +kernel
theorem d_D_init_123 : decode b_D_init 123 = .ok (.newarray .int, 2) := by decide +kernel
theorem d_D_init_125 : decode b_D_init 125 = .ok (.putfield 40, 3) := by decide +kernel
theorem d_D_init_128 : decode b_D_init 128 = .ok (.aload_n 0, 1) := by decide +kernel
theorem d_D_init_129 : decode b_D_init 129 = .ok (.iconst 5, 1) := by decide +kernel
theorem d_D_init_130 : decode b_D_init 130 = .ok (.newarray .int, 2) := by decide +kernel
theorem d_D_init_132 : decode b_D_init 132 = .ok (.putfield 43, 3) := by decide +kernel
theorem d_D_init_135 : decode b_D_init 135 = .ok (.aload_n 0, 1) := by decide +kernel
theorem d_D_init_136 : decode b_D_init 136 = .ok (.bipush 7, 2) := by decide +kernel
theorem d_D_init_138 : decode b_D_init 138 = .ok (.newarray .int, 2) := by decide +kernel
theorem d_D_init_140 : decode b_D_init 140 = .ok (.putfield 46, 3) := by decide +kernel
theorem d_D_init_143 : decode b_D_init 143 = .ok (.aload_n 0, 1) := by decide +kernel
theorem d_D_init_144 : decode b_D_init 144 = .ok (.bipush 64, 2) := by decide +kernel
theorem d_D_init_146 : decode b_D_init 146 = .ok (.newarray .int, 2) := by decide +kernel
theorem d_D_init_148 : decode b_D_init 148 = .ok (.putfield 49, 3) := by decide +kernel
theorem d_D_init_151 : decode b_D_init 151 = .ok (.aload_n 0, 1) := by decide +kernel
theorem d_D_init_152 : decode b_D_init 152 = .ok (.bipush 64, 2) := by decide +kernel
theorem d_D_init_154 : decode b_D_init 154 = .ok (.newarray .int, 2) := by decide +kernel
theorem d_D_init_156 : decode b_D_init 156 = .ok (.putfield 52, 3) := by decide +kernel
theorem d_D_init_159 : decode b_D_init 159 = .ok (.aload_n 0, 1) := by decide +kernel
theorem d_D_init_160 : decode b_D_init 160 = .ok (.bipush 64, 2) := by decide +kernel
theorem d_D_init_162 : decode b_D_init 162 = .ok (.newarray .int, 2) := by decide +kernel
theorem d_D_init_164 : decode b_D_init 164 = .ok (.putfield 55, 3) := by decide +kernel
theorem d_D_init_167 : decode b_D_init 167 = .ok (.return_, 1) := by decide +kernel
abbrev b_D_write : ByteArray := prog_1_method_2_code
def y_D_write : MethodName := ⟨R_D, "write", "(I)I"⟩
theorem mc_D_write : Cond.code y_D_write b_D_write 2 (Option.some .int) ∈ lw_use := g_use (List.mem_of_getElem? (i := 179) (by decide +kernel)) rfl
theorem d_D_write_0 : decode b_D_write 0 = .ok (.iload_n 1, 1) := by decide +kernel
theorem d_D_write_1 : decode b_D_write 1 = .ok (.ifCond .lt 10, 3) := by decide +kernel
theorem d_D_write_4 : decode b_D_write 4 = .ok (.iload_n 1, 1) := by decide +kernel
theorem d_D_write_5 : decode b_D_write 5 = .ok (.sipush 255, 3) := by decide +kernel
theorem d_D_write_8 : decode b_D_write 8 = .ok (.if_icmp .le 6, 3) := by decide +kernel
theorem d_D_write_11 : decode b_D_write 11 = .ok (.bipush (-2), 2) := by decide +kernel
theorem d_D_write_13 : decode b_D_write 13 = .ok (.ireturn, 1) := by decide +kernel
theorem d_D_write_14 : decode b_D_write 14 = .ok (.aload_n 0, 1) := by decide +kernel
theorem d_D_write_15 : decode b_D_write 15 = .ok (.getfield 10, 3) := by decide +kernel
theorem d_D_write_18 : decode b_D_write 18 = .ok (.getfield 58, 3) := by decide +kernel
theorem d_D_write_21 : decode b_D_write 21 = .ok (.bipush 48, 2) := by decide +kernel
theorem d_D_write_23 : decode b_D_write 23 = .ok (.if_icmp .lt 6, 3) := by decide +kernel
theorem d_D_write_26 : decode b_D_write 26 = .ok (.bipush (-4), 2) := by decide +kernel
theorem d_D_write_28 : decode b_D_write 28 = .ok (.ireturn, 1) := by decide +kernel
theorem d_D_write_29 : decode b_D_write 29 = .ok (.aload_n 0, 1) := by decide +kernel
theorem d_D_write_30 : decode b_D_write 30 = .ok (.getfield 10, 3) := by decide +kernel
theorem d_D_write_33 : decode b_D_write 33 = .ok (.getfield 62, 3) := by decide +kernel
theorem d_D_write_36 : decode b_D_write 36 = .ok (.aload_n 0, 1) := by decide +kernel
theorem d_D_write_37 : decode b_D_write 37 = .ok (.getfield 10, 3) := by decide +kernel
theorem d_D_write_40 : decode b_D_write 40 = .ok (.getfield 58, 3) := by decide +kernel
theorem d_D_write_43 : decode b_D_write 43 = .ok (.iload_n 1, 1) := by decide +kernel
theorem d_D_write_44 : decode b_D_write 44 = .ok (.iastore, 1) := by decide +kernel
theorem d_D_write_45 : decode b_D_write 45 = .ok (.aload_n 0, 1) := by decide +kernel
theorem d_D_write_46 : decode b_D_write 46 = .ok (.getfield 10, 3) := by decide +kernel
theorem d_D_write_49 : decode b_D_write 49 = .ok (.dup, 1) := by decide +kernel
theorem d_D_write_50 : decode b_D_write 50 = .ok (.getfield 58, 3) := by decide +kernel
theorem d_D_write_53 : decode b_D_write 53 = .ok (.iconst 1, 1) := by decide +kernel
theorem d_D_write_54 : decode b_D_write 54 = .ok (.iadd, 1) := by decide +kernel
theorem d_D_write_55 : decode b_D_write 55 = .ok (.putfield 58, 3) := by decide +kernel
theorem d_D_write_58 : decode b_D_write 58 = .ok (.aload_n 0, 1) := by decide +kernel
theorem d_D_write_59 : decode b_D_write 59 = .ok (.getfield 10, 3) := by decide +kernel
theorem d_D_write_62 : decode b_D_write 62 = .ok (.getfield 58, 3) := by decide +kernel
theorem d_D_write_65 : decode b_D_write 65 = .ok (.ireturn, 1) := by decide +kernel
abbrev b_D_wipe : ByteArray := prog_1_method_3_code
def y_D_wipe : MethodName := ⟨R_D, "wipe", "()I"⟩
theorem mc_D_wipe : Cond.code y_D_wipe b_D_wipe 2 (Option.some .int) ∈ lw_use := g_use (List.mem_of_getElem? (i := 183) (by decide +kernel)) rfl
theorem d_D_wipe_0 : decode b_D_wipe 0 = .ok (.aload_n 0, 1) := by decide +kernel
theorem d_D_wipe_1 : decode b_D_wipe 1 = .ok (.getfield 10, 3) := by decide +kernel
theorem d_D_wipe_4 : decode b_D_wipe 4 = .ok (.getfield 58, 3) := by decide +kernel
theorem d_D_wipe_7 : decode b_D_wipe 7 = .ok (.istore_n 1, 1) := by decide +kernel
theorem d_D_wipe_8 : decode b_D_wipe 8 = .ok (.aload_n 0, 1) := by decide +kernel
theorem d_D_wipe_9 : decode b_D_wipe 9 = .ok (.getfield 10, 3) := by decide +kernel
theorem d_D_wipe_12 : decode b_D_wipe 12 = .ok (.iconst 0, 1) := by decide +kernel
theorem d_D_wipe_13 : decode b_D_wipe 13 = .ok (.putfield 58, 3) := by decide +kernel
theorem d_D_wipe_16 : decode b_D_wipe 16 = .ok (.iload_n 1, 1) := by decide +kernel
theorem d_D_wipe_17 : decode b_D_wipe 17 = .ok (.ireturn, 1) := by decide +kernel
abbrev b_D_fault : ByteArray := prog_1_method_4_code
def y_D_fault : MethodName := ⟨R_D, "fault", "()I"⟩
theorem mc_D_fault : Cond.code y_D_fault b_D_fault 1 (Option.some .int) ∈ lw_use := g_use (List.mem_of_getElem? (i := 187) (by decide +kernel)) rfl
theorem d_D_fault_0 : decode b_D_fault 0 = .ok (.aload_n 0, 1) := by decide +kernel
theorem d_D_fault_1 : decode b_D_fault 1 = .ok (.getfield 10, 3) := by decide +kernel
theorem d_D_fault_4 : decode b_D_fault 4 = .ok (.invokevirtual 65, 3) := by decide +kernel
theorem d_D_fault_7 : decode b_D_fault 7 = .ok (.ireturn, 1) := by decide +kernel
abbrev b_D_dyke : ByteArray := prog_1_method_5_code
def y_D_dyke : MethodName := ⟨R_D, "dyke", "()I"⟩
theorem mc_D_dyke : Cond.code y_D_dyke b_D_dyke 2 (Option.some .int) ∈ lw_use := g_use (List.mem_of_getElem? (i := 221) (by decide +kernel)) rfl
theorem d_D_dyke_0 : decode b_D_dyke 0 = .ok (.aload_n 0, 1) := by decide +kernel
theorem d_D_dyke_1 : decode b_D_dyke 1 = .ok (.getfield 10, 3) := by decide +kernel
theorem d_D_dyke_4 : decode b_D_dyke 4 = .ok (.invokevirtual 65, 3) := by decide +kernel
theorem d_D_dyke_7 : decode b_D_dyke 7 = .ok (.bipush (-9), 2) := by decide +kernel
theorem d_D_dyke_9 : decode b_D_dyke 9 = .ok (.if_icmp .eq 6, 3) := by decide +kernel
theorem d_D_dyke_12 : decode b_D_dyke 12 = .ok (.bipush (-3), 2) := by decide +kernel
theorem d_D_dyke_14 : decode b_D_dyke 14 = .ok (.ireturn, 1) := by decide +kernel
theorem d_D_dyke_15 : decode b_D_dyke 15 = .ok (.aload_n 0, 1) := by decide +kernel
theorem d_D_dyke_16 : decode b_D_dyke 16 = .ok (.iconst 0, 1) := by decide +kernel
theorem d_D_dyke_17 : decode b_D_dyke 17 = .ok (.putfield 69, 3) := by decide +kernel
theorem d_D_dyke_20 : decode b_D_dyke 20 = .ok (.aload_n 0, 1) := by decide +kernel
theorem d_D_dyke_21 : decode b_D_dyke 21 = .ok (.iconst 0, 1) := by decide +kernel
theorem d_D_dyke_22 : decode b_D_dyke 22 = .ok (.putfield 72, 3) := by decide +kernel
theorem d_D_dyke_25 : decode b_D_dyke 25 = .ok (.aload_n 0, 1) := by decide +kernel
theorem d_D_dyke_26 : decode b_D_dyke 26 = .ok (.iconst 0, 1) := by decide +kernel
theorem d_D_dyke_27 : decode b_D_dyke 27 = .ok (.putfield 75, 3) := by decide +kernel
theorem d_D_dyke_30 : decode b_D_dyke 30 = .ok (.aload_n 0, 1) := by decide +kernel
theorem d_D_dyke_31 : decode b_D_dyke 31 = .ok (.getfield 29, 3) := by decide +kernel
theorem d_D_dyke_34 : decode b_D_dyke 34 = .ok (.invokevirtual 78, 3) := by decide +kernel
theorem d_D_dyke_37 : decode b_D_dyke 37 = .ok (.iconst 1, 1) := by decide +kernel
theorem d_D_dyke_38 : decode b_D_dyke 38 = .ok (.istore_n 1, 1) := by decide +kernel
theorem d_D_dyke_39 : decode b_D_dyke 39 = .ok (.iload_n 1, 1) := by decide +kernel
theorem d_D_dyke_40 : decode b_D_dyke 40 = .ok (.aload_n 0, 1) := by decide +kernel
theorem d_D_dyke_41 : decode b_D_dyke 41 = .ok (.getfield 10, 3) := by decide +kernel
theorem d_D_dyke_44 : decode b_D_dyke 44 = .ok (.getfield 58, 3) := by decide +kernel
theorem d_D_dyke_47 : decode b_D_dyke 47 = .ok (.if_icmp .ge 66, 3) := by decide +kernel
theorem d_D_dyke_50 : decode b_D_dyke 50 = .ok (.aload_n 0, 1) := by decide +kernel
theorem d_D_dyke_51 : decode b_D_dyke 51 = .ok (.getfield 10, 3) := by decide +kernel
theorem d_D_dyke_54 : decode b_D_dyke 54 = .ok (.iload_n 1, 1) := by decide +kernel
theorem d_D_dyke_55 : decode b_D_dyke 55 = .ok (.invokevirtual 81, 3) := by decide +kernel
theorem d_D_dyke_58 : decode b_D_dyke 58 = .ok (.bipush 70, 2) := by decide +kernel
theorem d_D_dyke_60 : decode b_D_dyke 60 = .ok (.if_icmp .ne 22, 3) := by decide +kernel
theorem d_D_dyke_63 : decode b_D_dyke 63 = .ok (.aload_n 0, 1) := by decide +kernel
theorem d_D_dyke_64 : decode b_D_dyke 64 = .ok (.iload_n 1, 1) := by decide +kernel
theorem d_D_dyke_65 : decode b_D_dyke 65 = .ok (.iconst 1, 1) := by decide +kernel
theorem d_D_dyke_66 : decode b_D_dyke 66 = .ok (.iadd, 1) := by decide +kernel
theorem d_D_dyke_67 : decode b_D_dyke 67 = .ok (.invokevirtual 85, 3) := by decide +kernel
theorem d_D_dyke_70 : decode b_D_dyke 70 = .ok (.iload_n 1, 1) := by decide +kernel
theorem d_D_dyke_71 : decode b_D_dyke 71 = .ok (.getstatic 89, 3) := by decide +kernel
theorem d_D_dyke_74 : decode b_D_dyke 74 = .ok (.arraylength, 1) := by decide +kernel
theorem d_D_dyke_75 : decode b_D_dyke 75 = .ok (.iconst 1, 1) := by decide +kernel
theorem d_D_dyke_76 : decode b_D_dyke 76 = .ok (.iadd, 1) := by decide +kernel
theorem d_D_dyke_77 : decode b_D_dyke 77 = .ok (.iadd, 1) := by decide +kernel
theorem d_D_dyke_78 : decode b_D_dyke 78 = .ok (.istore_n 1, 1) := by decide +kernel
theorem d_D_dyke_79 : decode b_D_dyke 79 = .ok (.goto (-40), 3) := by decide +kernel
theorem d_D_dyke_82 : decode b_D_dyke 82 = .ok (.aload_n 0, 1) := by decide +kernel
theorem d_D_dyke_83 : decode b_D_dyke 83 = .ok (.getfield 29, 3) := by decide +kernel
theorem d_D_dyke_86 : decode b_D_dyke 86 = .ok (.dup, 1) := by decide +kernel
theorem d_D_dyke_87 : decode b_D_dyke 87 = .ok (.getfield 92, 3) := by decide +kernel
theorem d_D_dyke_90 : decode b_D_dyke 90 = .ok (.aload_n 0, 1) := by decide +kernel
theorem d_D_dyke_91 : decode b_D_dyke 91 = .ok (.getfield 10, 3) := by decide +kernel
theorem d_D_dyke_94 : decode b_D_dyke 94 = .ok (.iload_n 1, 1) := by decide +kernel
theorem d_D_dyke_95 : decode b_D_dyke 95 = .ok (.iconst 1, 1) := by decide +kernel
theorem d_D_dyke_96 : decode b_D_dyke 96 = .ok (.iadd, 1) := by decide +kernel
theorem d_D_dyke_97 : decode b_D_dyke 97 = .ok (.invokevirtual 95, 3) := by decide +kernel
theorem d_D_dyke_100 : decode b_D_dyke 100 = .ok (.invokestatic 98, 3) := by decide +kernel
theorem d_D_dyke_103 : decode b_D_dyke 103 = .ok (.ior, 1) := by decide +kernel
theorem d_D_dyke_104 : decode b_D_dyke 104 = .ok (.putfield 92, 3) := by decide +kernel
theorem d_D_dyke_107 : decode b_D_dyke 107 = .ok (.iinc 1 2, 3) := by decide +kernel
theorem d_D_dyke_110 : decode b_D_dyke 110 = .ok (.goto (-71), 3) := by decide +kernel
theorem d_D_dyke_113 : decode b_D_dyke 113 = .ok (.aload_n 0, 1) := by decide +kernel
theorem d_D_dyke_114 : decode b_D_dyke 114 = .ok (.getfield 69, 3) := by decide +kernel
theorem d_D_dyke_117 : decode b_D_dyke 117 = .ok (.ireturn, 1) := by decide +kernel
abbrev b_D_about : ByteArray := prog_1_method_6_code
def y_D_about : MethodName := ⟨R_D, "about", "(I)I"⟩
theorem mc_D_about : Cond.code y_D_about b_D_about 2 (Option.some .int) ∈ lw_use := g_use (List.mem_of_getElem? (i := 240) (by decide +kernel)) rfl
theorem d_D_about_0 : decode b_D_about 0 = .ok (.iload_n 1, 1) := by decide +kernel
theorem d_D_about_1 : decode b_D_about 1 = .ok (.tableswitch 94 0 6 #[43, 48, 56, 64, 72, 81, 86], 43) := by decide +kernel
theorem d_D_about_44 : decode b_D_about 44 = .ok (.aload_n 0, 1) := by decide +kernel
theorem d_D_about_45 : decode b_D_about 45 = .ok (.getfield 69, 3) := by decide +kernel
theorem d_D_about_48 : decode b_D_about 48 = .ok (.ireturn, 1) := by decide +kernel
theorem d_D_about_49 : decode b_D_about 49 = .ok (.aload_n 0, 1) := by decide +kernel
theorem d_D_about_50 : decode b_D_about 50 = .ok (.getfield 29, 3) := by decide +kernel
theorem d_D_about_53 : decode b_D_about 53 = .ok (.getfield 92, 3) := by decide +kernel
theorem d_D_about_56 : decode b_D_about 56 = .ok (.ireturn, 1) := by decide +kernel
theorem d_D_about_57 : decode b_D_about 57 = .ok (.aload_n 0, 1) := by decide +kernel
theorem d_D_about_58 : decode b_D_about 58 = .ok (.getfield 29, 3) := by decide +kernel
theorem d_D_about_61 : decode b_D_about 61 = .ok (.getfield 101, 3) := by decide +kernel
theorem d_D_about_64 : decode b_D_about 64 = .ok (.ireturn, 1) := by decide +kernel
theorem d_D_about_65 : decode b_D_about 65 = .ok (.aload_n 0, 1) := by decide +kernel
theorem d_D_about_66 : decode b_D_about 66 = .ok (.getfield 29, 3) := by decide +kernel
theorem d_D_about_69 : decode b_D_about 69 = .ok (.getfield 104, 3) := by decide +kernel
theorem d_D_about_72 : decode b_D_about 72 = .ok (.ireturn, 1) := by decide +kernel
theorem d_D_about_73 : decode b_D_about 73 = .ok (.aload_n 0, 1) := by decide +kernel
theorem d_D_about_74 : decode b_D_about 74 = .ok (.aload_n 0, 1) := by decide +kernel
theorem d_D_about_75 : decode b_D_about 75 = .ok (.invokevirtual 107, 3) := by decide +kernel
theorem d_D_about_78 : decode b_D_about 78 = .ok (.invokevirtual 110, 3) := by decide +kernel
theorem d_D_about_81 : decode b_D_about 81 = .ok (.ireturn, 1) := by decide +kernel
theorem d_D_about_82 : decode b_D_about 82 = .ok (.aload_n 0, 1) := by decide +kernel
theorem d_D_about_83 : decode b_D_about 83 = .ok (.getfield 72, 3) := by decide +kernel
theorem d_D_about_86 : decode b_D_about 86 = .ok (.ireturn, 1) := by decide +kernel
theorem d_D_about_87 : decode b_D_about 87 = .ok (.aload_n 0, 1) := by decide +kernel
theorem d_D_about_88 : decode b_D_about 88 = .ok (.getfield 10, 3) := by decide +kernel
theorem d_D_about_91 : decode b_D_about 91 = .ok (.getfield 58, 3) := by decide +kernel
theorem d_D_about_94 : decode b_D_about 94 = .ok (.ireturn, 1) := by decide +kernel
theorem d_D_about_95 : decode b_D_about 95 = .ok (.bipush (-2), 2) := by decide +kernel
theorem d_D_about_97 : decode b_D_about 97 = .ok (.ireturn, 1) := by decide +kernel
abbrev b_D_farm : ByteArray := prog_1_method_7_code
def y_D_farm : MethodName := ⟨R_D, "farm", "(II)I"⟩
theorem mc_D_farm : Cond.code y_D_farm b_D_farm 3 (Option.some .int) ∈ lw_use := g_use (List.mem_of_getElem? (i := 253) (by decide +kernel)) rfl
theorem d_D_farm_0 : decode b_D_farm 0 = .ok (.aload_n 0, 1) := by decide +kernel
theorem d_D_farm_1 : decode b_D_farm 1 = .ok (.iload_n 1, 1) := by decide +kernel
theorem d_D_farm_2 : decode b_D_farm 2 = .ok (.invokevirtual 113, 3) := by decide +kernel
theorem d_D_farm_5 : decode b_D_farm 5 = .ok (.ifCond .ne 5, 3) := by decide +kernel
theorem d_D_farm_8 : decode b_D_farm 8 = .ok (.iconst (-1), 1) := by decide +kernel
theorem d_D_farm_9 : decode b_D_farm 9 = .ok (.ireturn, 1) := by decide +kernel
theorem d_D_farm_10 : decode b_D_farm 10 = .ok (.iload_n 2, 1) := by decide +kernel
theorem d_D_farm_11 : decode b_D_farm 11 = .ok (.tableswitch 107 0 6 #[41, 51, 58, 68, 75, 82, 92], 41) := by decide +kernel
theorem d_D_farm_52 : decode b_D_farm 52 = .ok (.aload_n 0, 1) := by decide +kernel
theorem d_D_farm_53 : decode b_D_farm 53 = .ok (.getfield 29, 3) := by decide +kernel
theorem d_D_farm_56 : decode b_D_farm 56 = .ok (.getfield 117, 3) := by decide +kernel
theorem d_D_farm_59 : decode b_D_farm 59 = .ok (.iload_n 1, 1) := by decide +kernel
theorem d_D_farm_60 : decode b_D_farm 60 = .ok (.iaload, 1) := by decide +kernel
theorem d_D_farm_61 : decode b_D_farm 61 = .ok (.ireturn, 1) := by decide +kernel
theorem d_D_farm_62 : decode b_D_farm 62 = .ok (.aload_n 0, 1) := by decide +kernel
theorem d_D_farm_63 : decode b_D_farm 63 = .ok (.getfield 16, 3) := by decide +kernel
theorem d_D_farm_66 : decode b_D_farm 66 = .ok (.iload_n 1, 1) := by decide +kernel
theorem d_D_farm_67 : decode b_D_farm 67 = .ok (.iaload, 1) := by decide +kernel
theorem d_D_farm_68 : decode b_D_farm 68 = .ok (.ireturn, 1) := by decide +kernel
theorem d_D_farm_69 : decode b_D_farm 69 = .ok (.aload_n 0, 1) := by decide +kernel
theorem d_D_farm_70 : decode b_D_farm 70 = .ok (.getfield 29, 3) := by decide +kernel
theorem d_D_farm_73 : decode b_D_farm 73 = .ok (.getfield 120, 3) := by decide +kernel
theorem d_D_farm_76 : decode b_D_farm 76 = .ok (.iload_n 1, 1) := by decide +kernel
theorem d_D_farm_77 : decode b_D_farm 77 = .ok (.iaload, 1) := by decide +kernel
theorem d_D_farm_78 : decode b_D_farm 78 = .ok (.ireturn, 1) := by decide +kernel
theorem d_D_farm_79 : decode b_D_farm 79 = .ok (.aload_n 0, 1) := by decide +kernel
theorem d_D_farm_80 : decode b_D_farm 80 = .ok (.getfield 20, 3) := by decide +kernel
theorem d_D_farm_83 : decode b_D_farm 83 = .ok (.iload_n 1, 1) := by decide +kernel
theorem d_D_farm_84 : decode b_D_farm 84 = .ok (.iaload, 1) := by decide +kernel
theorem d_D_farm_85 : decode b_D_farm 85 = .ok (.ireturn, 1) := by decide +kernel
theorem d_D_farm_86 : decode b_D_farm 86 = .ok (.aload_n 0, 1) := by decide +kernel
theorem d_D_farm_87 : decode b_D_farm 87 = .ok (.getfield 23, 3) := by decide +kernel
theorem d_D_farm_90 : decode b_D_farm 90 = .ok (.iload_n 1, 1) := by decide +kernel
theorem d_D_farm_91 : decode b_D_farm 91 = .ok (.iaload, 1) := by decide +kernel
theorem d_D_farm_92 : decode b_D_farm 92 = .ok (.ireturn, 1) := by decide +kernel
theorem d_D_farm_93 : decode b_D_farm 93 = .ok (.aload_n 0, 1) := by decide +kernel
theorem d_D_farm_94 : decode b_D_farm 94 = .ok (.getfield 29, 3) := by decide +kernel
theorem d_D_farm_97 : decode b_D_farm 97 = .ok (.getfield 123, 3) := by decide +kernel
theorem d_D_farm_100 : decode b_D_farm 100 = .ok (.iload_n 1, 1) := by decide +kernel
theorem d_D_farm_101 : decode b_D_farm 101 = .ok (.iaload, 1) := by decide +kernel
theorem d_D_farm_102 : decode b_D_farm 102 = .ok (.ireturn, 1) := by decide +kernel
theorem d_D_farm_103 : decode b_D_farm 103 = .ok (.aload_n 0, 1) := by decide +kernel
theorem d_D_farm_104 : decode b_D_farm 104 = .ok (.iload_n 1, 1) := by decide +kernel
theorem d_D_farm_105 : decode b_D_farm 105 = .ok (.aload_n 0, 1) := by decide +kernel
theorem d_D_farm_106 : decode b_D_farm 106 = .ok (.getfield 29, 3) := by decide +kernel
theorem d_D_farm_109 : decode b_D_farm 109 = .ok (.getfield 117, 3) := by decide +kernel
theorem d_D_farm_112 : decode b_D_farm 112 = .ok (.iload_n 1, 1) := by decide +kernel
theorem d_D_farm_113 : decode b_D_farm 113 = .ok (.iaload, 1) := by decide +kernel
theorem d_D_farm_114 : decode b_D_farm 114 = .ok (.invokevirtual 126, 3) := by decide +kernel
theorem d_D_farm_117 : decode b_D_farm 117 = .ok (.ireturn, 1) := by decide +kernel
theorem d_D_farm_118 : decode b_D_farm 118 = .ok (.bipush (-2), 2) := by decide +kernel
theorem d_D_farm_120 : decode b_D_farm 120 = .ok (.ireturn, 1) := by decide +kernel
abbrev b_D_owes : ByteArray := prog_1_method_8_code
def y_D_owes : MethodName := ⟨R_D, "owes", "(II)I"⟩
theorem mc_D_owes : Cond.code y_D_owes b_D_owes 3 (Option.some .int) ∈ lw_use := g_use (List.mem_of_getElem? (i := 265) (by decide +kernel)) rfl
theorem d_D_owes_0 : decode b_D_owes 0 = .ok (.aload_n 0, 1) := by decide +kernel
theorem d_D_owes_1 : decode b_D_owes 1 = .ok (.iload_n 1, 1) := by decide +kernel
theorem d_D_owes_2 : decode b_D_owes 2 = .ok (.invokevirtual 113, 3) := by decide +kernel
theorem d_D_owes_5 : decode b_D_owes 5 = .ok (.ifCond .eq 11, 3) := by decide +kernel
theorem d_D_owes_8 : decode b_D_owes 8 = .ok (.aload_n 0, 1) := by decide +kernel
theorem d_D_owes_9 : decode b_D_owes 9 = .ok (.iload_n 2, 1) := by decide +kernel
theorem d_D_owes_10 : decode b_D_owes 10 = .ok (.invokevirtual 113, 3) := by decide +kernel
theorem d_D_owes_13 : decode b_D_owes 13 = .ok (.ifCond .ne 5, 3) := by decide +kernel
theorem d_D_owes_16 : decode b_D_owes 16 = .ok (.iconst (-1), 1) := by decide +kernel
theorem d_D_owes_17 : decode b_D_owes 17 = .ok (.ireturn, 1) := by decide +kernel
theorem d_D_owes_18 : decode b_D_owes 18 = .ok (.aload_n 0, 1) := by decide +kernel
theorem d_D_owes_19 : decode b_D_owes 19 = .ok (.getfield 29, 3) := by decide +kernel
theorem d_D_owes_22 : decode b_D_owes 22 = .ok (.getfield 130, 3) := by decide +kernel
theorem d_D_owes_25 : decode b_D_owes 25 = .ok (.iload_n 1, 1) := by decide +kernel
theorem d_D_owes_26 : decode b_D_owes 26 = .ok (.aaload, 1) := by decide +kernel
theorem d_D_owes_27 : decode b_D_owes 27 = .ok (.iload_n 2, 1) := by decide +kernel
theorem d_D_owes_28 : decode b_D_owes 28 = .ok (.iaload, 1) := by decide +kernel
theorem d_D_owes_29 : decode b_D_owes 29 = .ok (.ireturn, 1) := by decide +kernel
abbrev b_D_storm : ByteArray := prog_1_method_9_code
def y_D_storm : MethodName := ⟨R_D, "storm", "(I)I"⟩
theorem mc_D_storm : Cond.code y_D_storm b_D_storm 3 (Option.some .int) ∈ lw_use := g_use (List.mem_of_getElem? (i := 269) (by decide +kernel)) rfl
theorem d_D_storm_0 : decode b_D_storm 0 = .ok (.iload_n 1, 1) := by decide +kernel
theorem d_D_storm_1 : decode b_D_storm 1 = .ok (.invokestatic 134, 3) := by decide +kernel
theorem d_D_storm_4 : decode b_D_storm 4 = .ok (.ifCond .ne 6, 3) := by decide +kernel
theorem d_D_storm_7 : decode b_D_storm 7 = .ok (.bipush (-2), 2) := by decide +kernel
theorem d_D_storm_9 : decode b_D_storm 9 = .ok (.ireturn, 1) := by decide +kernel
theorem d_D_storm_10 : decode b_D_storm 10 = .ok (.aload_n 0, 1) := by decide +kernel
theorem d_D_storm_11 : decode b_D_storm 11 = .ok (.invokevirtual 137, 3) := by decide +kernel
theorem d_D_storm_14 : decode b_D_storm 14 = .ok (.aload_n 0, 1) := by decide +kernel
theorem d_D_storm_15 : decode b_D_storm 15 = .ok (.aload_n 0, 1) := by decide +kernel
theorem d_D_storm_16 : decode b_D_storm 16 = .ok (.getfield 29, 3) := by decide +kernel
theorem d_D_storm_19 : decode b_D_storm 19 = .ok (.getfield 117, 3) := by decide +kernel
theorem d_D_storm_22 : decode b_D_storm 22 = .ok (.iload_n 1, 1) := by decide +kernel
theorem d_D_storm_23 : decode b_D_storm 23 = .ok (.invokevirtual 140, 3) := by decide +kernel
theorem d_D_storm_26 : decode b_D_storm 26 = .ok (.istore_n 2, 1) := by decide +kernel
theorem d_D_storm_27 : decode b_D_storm 27 = .ok (.aload_n 0, 1) := by decide +kernel
theorem d_D_storm_28 : decode b_D_storm 28 = .ok (.getfield 29, 3) := by decide +kernel
theorem d_D_storm_31 : decode b_D_storm 31 = .ok (.dup, 1) := by decide +kernel
theorem d_D_storm_32 : decode b_D_storm 32 = .ok (.getfield 101, 3) := by decide +kernel
theorem d_D_storm_35 : decode b_D_storm 35 = .ok (.iload_n 2, 1) := by decide +kernel
theorem d_D_storm_36 : decode b_D_storm 36 = .ok (.ior, 1) := by decide +kernel
theorem d_D_storm_37 : decode b_D_storm 37 = .ok (.putfield 101, 3) := by decide +kernel
theorem d_D_storm_40 : decode b_D_storm 40 = .ok (.aload_n 0, 1) := by decide +kernel
theorem d_D_storm_41 : decode b_D_storm 41 = .ok (.getfield 29, 3) := by decide +kernel
theorem d_D_storm_44 : decode b_D_storm 44 = .ok (.dup, 1) := by decide +kernel
theorem d_D_storm_45 : decode b_D_storm 45 = .ok (.getfield 104, 3) := by decide +kernel
theorem d_D_storm_48 : decode b_D_storm 48 = .ok (.iconst 1, 1) := by decide +kernel
theorem d_D_storm_49 : decode b_D_storm 49 = .ok (.iadd, 1) := by decide +kernel
theorem d_D_storm_50 : decode b_D_storm 50 = .ok (.putfield 104, 3) := by decide +kernel
theorem d_D_storm_53 : decode b_D_storm 53 = .ok (.aload_n 0, 1) := by decide +kernel
theorem d_D_storm_54 : decode b_D_storm 54 = .ok (.aload_n 0, 1) := by decide +kernel
theorem d_D_storm_55 : decode b_D_storm 55 = .ok (.iload_n 2, 1) := by decide +kernel
theorem d_D_storm_56 : decode b_D_storm 56 = .ok (.invokevirtual 144, 3) := by decide +kernel
theorem d_D_storm_59 : decode b_D_storm 59 = .ok (.invokevirtual 147, 3) := by decide +kernel
theorem d_D_storm_62 : decode b_D_storm 62 = .ok (.ireturn, 1) := by decide +kernel
abbrev b_D_carry : ByteArray := prog_1_method_10_code
def y_D_carry : MethodName := ⟨R_D, "carry", "(II)I"⟩
theorem mc_D_carry : Cond.code y_D_carry b_D_carry 3 (Option.some .int) ∈ lw_use := g_use (List.mem_of_getElem? (i := 310) (by decide +kernel)) rfl
theorem d_D_carry_0 : decode b_D_carry 0 = .ok (.aload_n 0, 1) := by decide +kernel
theorem d_D_carry_1 : decode b_D_carry 1 = .ok (.iload_n 1, 1) := by decide +kernel
theorem d_D_carry_2 : decode b_D_carry 2 = .ok (.invokevirtual 113, 3) := by decide +kernel
theorem d_D_carry_5 : decode b_D_carry 5 = .ok (.ifCond .eq 11, 3) := by decide +kernel
theorem d_D_carry_8 : decode b_D_carry 8 = .ok (.aload_n 0, 1) := by decide +kernel
theorem d_D_carry_9 : decode b_D_carry 9 = .ok (.iload_n 2, 1) := by decide +kernel
theorem d_D_carry_10 : decode b_D_carry 10 = .ok (.invokevirtual 113, 3) := by decide +kernel
theorem d_D_carry_13 : decode b_D_carry 13 = .ok (.ifCond .ne 5, 3) := by decide +kernel
theorem d_D_carry_16 : decode b_D_carry 16 = .ok (.iconst (-1), 1) := by decide +kernel
theorem d_D_carry_17 : decode b_D_carry 17 = .ok (.ireturn, 1) := by decide +kernel
theorem d_D_carry_18 : decode b_D_carry 18 = .ok (.aload_n 0, 1) := by decide +kernel
theorem d_D_carry_19 : decode b_D_carry 19 = .ok (.getfield 29, 3) := by decide +kernel
theorem d_D_carry_22 : decode b_D_carry 22 = .ok (.getfield 120, 3) := by decide +kernel
theorem d_D_carry_25 : decode b_D_carry 25 = .ok (.iload_n 1, 1) := by decide +kernel
theorem d_D_carry_26 : decode b_D_carry 26 = .ok (.iaload, 1) := by decide +kernel
theorem d_D_carry_27 : decode b_D_carry 27 = .ok (.iconst 1, 1) := by decide +kernel
theorem d_D_carry_28 : decode b_D_carry 28 = .ok (.if_icmp .ge 6, 3) := by decide +kernel
theorem d_D_carry_31 : decode b_D_carry 31 = .ok (.bipush (-3), 2) := by decide +kernel
theorem d_D_carry_33 : decode b_D_carry 33 = .ok (.ireturn, 1) := by decide +kernel
theorem d_D_carry_34 : decode b_D_carry 34 = .ok (.aload_n 0, 1) := by decide +kernel
theorem d_D_carry_35 : decode b_D_carry 35 = .ok (.getfield 29, 3) := by decide +kernel
theorem d_D_carry_38 : decode b_D_carry 38 = .ok (.getfield 117, 3) := by decide +kernel
theorem d_D_carry_41 : decode b_D_carry 41 = .ok (.iload_n 2, 1) := by decide +kernel
theorem d_D_carry_42 : decode b_D_carry 42 = .ok (.iaload, 1) := by decide +kernel
theorem d_D_carry_43 : decode b_D_carry 43 = .ok (.bipush 15, 2) := by decide +kernel
theorem d_D_carry_45 : decode b_D_carry 45 = .ok (.if_icmp .lt 6, 3) := by decide +kernel
theorem d_D_carry_48 : decode b_D_carry 48 = .ok (.bipush (-4), 2) := by decide +kernel
theorem d_D_carry_50 : decode b_D_carry 50 = .ok (.ireturn, 1) := by decide +kernel
theorem d_D_carry_51 : decode b_D_carry 51 = .ok (.aload_n 0, 1) := by decide +kernel
theorem d_D_carry_52 : decode b_D_carry 52 = .ok (.invokevirtual 137, 3) := by decide +kernel
theorem d_D_carry_55 : decode b_D_carry 55 = .ok (.aload_n 0, 1) := by decide +kernel
theorem d_D_carry_56 : decode b_D_carry 56 = .ok (.getfield 29, 3) := by decide +kernel
theorem d_D_carry_59 : decode b_D_carry 59 = .ok (.getfield 120, 3) := by decide +kernel
theorem d_D_carry_62 : decode b_D_carry 62 = .ok (.iload_n 1, 1) := by decide +kernel
theorem d_D_carry_63 : decode b_D_carry 63 = .ok (.dup2, 1) := by decide +kernel
theorem d_D_carry_64 : decode b_D_carry 64 = .ok (.iaload, 1) := by decide +kernel
theorem d_D_carry_65 : decode b_D_carry 65 = .ok (.iconst 1, 1) := by decide +kernel
theorem d_D_carry_66 : decode b_D_carry 66 = .ok (.isub, 1) := by decide +kernel
theorem d_D_carry_67 : decode b_D_carry 67 = .ok (.iastore, 1) := by decide +kernel
theorem d_D_carry_68 : decode b_D_carry 68 = .ok (.aload_n 0, 1) := by decide +kernel
theorem d_D_carry_69 : decode b_D_carry 69 = .ok (.getfield 29, 3) := by decide +kernel
theorem d_D_carry_72 : decode b_D_carry 72 = .ok (.getfield 117, 3) := by decide +kernel
theorem d_D_carry_75 : decode b_D_carry 75 = .ok (.iload_n 2, 1) := by decide +kernel
theorem d_D_carry_76 : decode b_D_carry 76 = .ok (.dup2, 1) := by decide +kernel
theorem d_D_carry_77 : decode b_D_carry 77 = .ok (.iaload, 1) := by decide +kernel
theorem d_D_carry_78 : decode b_D_carry 78 = .ok (.iconst 1, 1) := by decide +kernel
theorem d_D_carry_79 : decode b_D_carry 79 = .ok (.iadd, 1) := by decide +kernel
theorem d_D_carry_80 : decode b_D_carry 80 = .ok (.iastore, 1) := by decide +kernel
theorem d_D_carry_81 : decode b_D_carry 81 = .ok (.aload_n 0, 1) := by decide +kernel
theorem d_D_carry_82 : decode b_D_carry 82 = .ok (.getfield 29, 3) := by decide +kernel
theorem d_D_carry_85 : decode b_D_carry 85 = .ok (.getfield 117, 3) := by decide +kernel
theorem d_D_carry_88 : decode b_D_carry 88 = .ok (.iload_n 2, 1) := by decide +kernel
theorem d_D_carry_89 : decode b_D_carry 89 = .ok (.iaload, 1) := by decide +kernel
theorem d_D_carry_90 : decode b_D_carry 90 = .ok (.ireturn, 1) := by decide +kernel
abbrev b_D_lend : ByteArray := prog_1_method_11_code
def y_D_lend : MethodName := ⟨R_D, "lend", "(II)I"⟩
theorem mc_D_lend : Cond.code y_D_lend b_D_lend 3 (Option.some .int) ∈ lw_use := g_use (List.mem_of_getElem? (i := 314) (by decide +kernel)) rfl
theorem d_D_lend_0 : decode b_D_lend 0 = .ok (.aload_n 0, 1) := by decide +kernel
theorem d_D_lend_1 : decode b_D_lend 1 = .ok (.iload_n 1, 1) := by decide +kernel
theorem d_D_lend_2 : decode b_D_lend 2 = .ok (.invokevirtual 113, 3) := by decide +kernel
theorem d_D_lend_5 : decode b_D_lend 5 = .ok (.ifCond .eq 11, 3) := by decide +kernel
theorem d_D_lend_8 : decode b_D_lend 8 = .ok (.aload_n 0, 1) := by decide +kernel
theorem d_D_lend_9 : decode b_D_lend 9 = .ok (.iload_n 2, 1) := by decide +kernel
theorem d_D_lend_10 : decode b_D_lend 10 = .ok (.invokevirtual 113, 3) := by decide +kernel
theorem d_D_lend_13 : decode b_D_lend 13 = .ok (.ifCond .ne 5, 3) := by decide +kernel
theorem d_D_lend_16 : decode b_D_lend 16 = .ok (.iconst (-1), 1) := by decide +kernel
theorem d_D_lend_17 : decode b_D_lend 17 = .ok (.ireturn, 1) := by decide +kernel
theorem d_D_lend_18 : decode b_D_lend 18 = .ok (.iload_n 1, 1) := by decide +kernel
theorem d_D_lend_19 : decode b_D_lend 19 = .ok (.iload_n 2, 1) := by decide +kernel
theorem d_D_lend_20 : decode b_D_lend 20 = .ok (.if_icmp .ne 6, 3) := by decide +kernel
theorem d_D_lend_23 : decode b_D_lend 23 = .ok (.bipush (-2), 2) := by decide +kernel
theorem d_D_lend_25 : decode b_D_lend 25 = .ok (.ireturn, 1) := by decide +kernel
theorem d_D_lend_26 : decode b_D_lend 26 = .ok (.aload_n 0, 1) := by decide +kernel
theorem d_D_lend_27 : decode b_D_lend 27 = .ok (.getfield 29, 3) := by decide +kernel
theorem d_D_lend_30 : decode b_D_lend 30 = .ok (.getfield 120, 3) := by decide +kernel
theorem d_D_lend_33 : decode b_D_lend 33 = .ok (.iload_n 1, 1) := by decide +kernel
theorem d_D_lend_34 : decode b_D_lend 34 = .ok (.iaload, 1) := by decide +kernel
theorem d_D_lend_35 : decode b_D_lend 35 = .ok (.iconst 1, 1) := by decide +kernel
theorem d_D_lend_36 : decode b_D_lend 36 = .ok (.if_icmp .ge 6, 3) := by decide +kernel
theorem d_D_lend_39 : decode b_D_lend 39 = .ok (.bipush (-3), 2) := by decide +kernel
theorem d_D_lend_41 : decode b_D_lend 41 = .ok (.ireturn, 1) := by decide +kernel
theorem d_D_lend_42 : decode b_D_lend 42 = .ok (.aload_n 0, 1) := by decide +kernel
theorem d_D_lend_43 : decode b_D_lend 43 = .ok (.invokevirtual 137, 3) := by decide +kernel
theorem d_D_lend_46 : decode b_D_lend 46 = .ok (.aload_n 0, 1) := by decide +kernel
theorem d_D_lend_47 : decode b_D_lend 47 = .ok (.getfield 29, 3) := by decide +kernel
theorem d_D_lend_50 : decode b_D_lend 50 = .ok (.getfield 120, 3) := by decide +kernel
theorem d_D_lend_53 : decode b_D_lend 53 = .ok (.iload_n 1, 1) := by decide +kernel
theorem d_D_lend_54 : decode b_D_lend 54 = .ok (.dup2, 1) := by decide +kernel
theorem d_D_lend_55 : decode b_D_lend 55 = .ok (.iaload, 1) := by decide +kernel
theorem d_D_lend_56 : decode b_D_lend 56 = .ok (.iconst 1, 1) := by decide +kernel
theorem d_D_lend_57 : decode b_D_lend 57 = .ok (.isub, 1) := by decide +kernel
theorem d_D_lend_58 : decode b_D_lend 58 = .ok (.iastore, 1) := by decide +kernel
theorem d_D_lend_59 : decode b_D_lend 59 = .ok (.aload_n 0, 1) := by decide +kernel
theorem d_D_lend_60 : decode b_D_lend 60 = .ok (.getfield 29, 3) := by decide +kernel
theorem d_D_lend_63 : decode b_D_lend 63 = .ok (.getfield 120, 3) := by decide +kernel
theorem d_D_lend_66 : decode b_D_lend 66 = .ok (.iload_n 2, 1) := by decide +kernel
theorem d_D_lend_67 : decode b_D_lend 67 = .ok (.dup2, 1) := by decide +kernel
theorem d_D_lend_68 : decode b_D_lend 68 = .ok (.iaload, 1) := by decide +kernel
theorem d_D_lend_69 : decode b_D_lend 69 = .ok (.iconst 1, 1) := by decide +kernel
theorem d_D_lend_70 : decode b_D_lend 70 = .ok (.iadd, 1) := by decide +kernel
theorem d_D_lend_71 : decode b_D_lend 71 = .ok (.iastore, 1) := by decide +kernel
theorem d_D_lend_72 : decode b_D_lend 72 = .ok (.aload_n 0, 1) := by decide +kernel
theorem d_D_lend_73 : decode b_D_lend 73 = .ok (.getfield 29, 3) := by decide +kernel
theorem d_D_lend_76 : decode b_D_lend 76 = .ok (.getfield 130, 3) := by decide +kernel
theorem d_D_lend_79 : decode b_D_lend 79 = .ok (.iload_n 2, 1) := by decide +kernel
theorem d_D_lend_80 : decode b_D_lend 80 = .ok (.aaload, 1) := by decide +kernel
theorem d_D_lend_81 : decode b_D_lend 81 = .ok (.iload_n 1, 1) := by decide +kernel
theorem d_D_lend_82 : decode b_D_lend 82 = .ok (.dup2, 1) := by decide +kernel
theorem d_D_lend_83 : decode b_D_lend 83 = .ok (.iaload, 1) := by decide +kernel
theorem d_D_lend_84 : decode b_D_lend 84 = .ok (.iconst 1, 1) := by decide +kernel
theorem d_D_lend_85 : decode b_D_lend 85 = .ok (.iadd, 1) := by decide +kernel
theorem d_D_lend_86 : decode b_D_lend 86 = .ok (.iastore, 1) := by decide +kernel
theorem d_D_lend_87 : decode b_D_lend 87 = .ok (.aload_n 0, 1) := by decide +kernel
theorem d_D_lend_88 : decode b_D_lend 88 = .ok (.getfield 29, 3) := by decide +kernel
theorem d_D_lend_91 : decode b_D_lend 91 = .ok (.getfield 130, 3) := by decide +kernel
theorem d_D_lend_94 : decode b_D_lend 94 = .ok (.iload_n 2, 1) := by decide +kernel
theorem d_D_lend_95 : decode b_D_lend 95 = .ok (.aaload, 1) := by decide +kernel
theorem d_D_lend_96 : decode b_D_lend 96 = .ok (.iload_n 1, 1) := by decide +kernel
theorem d_D_lend_97 : decode b_D_lend 97 = .ok (.iaload, 1) := by decide +kernel
theorem d_D_lend_98 : decode b_D_lend 98 = .ok (.ireturn, 1) := by decide +kernel
abbrev b_D_stick : ByteArray := prog_1_method_12_code
def y_D_stick : MethodName := ⟨R_D, "stick", "(I)I"⟩
theorem mc_D_stick : Cond.code y_D_stick b_D_stick 2 (Option.some .int) ∈ lw_use := g_use (List.mem_of_getElem? (i := 318) (by decide +kernel)) rfl
theorem d_D_stick_0 : decode b_D_stick 0 = .ok (.aload_n 0, 1) := by decide +kernel
theorem d_D_stick_1 : decode b_D_stick 1 = .ok (.iload_n 1, 1) := by decide +kernel
theorem d_D_stick_2 : decode b_D_stick 2 = .ok (.invokevirtual 113, 3) := by decide +kernel
theorem d_D_stick_5 : decode b_D_stick 5 = .ok (.ifCond .ne 5, 3) := by decide +kernel
theorem d_D_stick_8 : decode b_D_stick 8 = .ok (.iconst (-1), 1) := by decide +kernel
theorem d_D_stick_9 : decode b_D_stick 9 = .ok (.ireturn, 1) := by decide +kernel
theorem d_D_stick_10 : decode b_D_stick 10 = .ok (.aload_n 0, 1) := by decide +kernel
theorem d_D_stick_11 : decode b_D_stick 11 = .ok (.getfield 29, 3) := by decide +kernel
theorem d_D_stick_14 : decode b_D_stick 14 = .ok (.getfield 101, 3) := by decide +kernel
theorem d_D_stick_17 : decode b_D_stick 17 = .ok (.iload_n 1, 1) := by decide +kernel
theorem d_D_stick_18 : decode b_D_stick 18 = .ok (.invokestatic 150, 3) := by decide +kernel
theorem d_D_stick_21 : decode b_D_stick 21 = .ok (.ifCond .eq 6, 3) := by decide +kernel
theorem d_D_stick_24 : decode b_D_stick 24 = .ok (.bipush (-3), 2) := by decide +kernel
theorem d_D_stick_26 : decode b_D_stick 26 = .ok (.ireturn, 1) := by decide +kernel
theorem d_D_stick_27 : decode b_D_stick 27 = .ok (.aload_n 0, 1) := by decide +kernel
theorem d_D_stick_28 : decode b_D_stick 28 = .ok (.invokevirtual 137, 3) := by decide +kernel
theorem d_D_stick_31 : decode b_D_stick 31 = .ok (.aload_n 0, 1) := by decide +kernel
theorem d_D_stick_32 : decode b_D_stick 32 = .ok (.getfield 29, 3) := by decide +kernel
theorem d_D_stick_35 : decode b_D_stick 35 = .ok (.dup, 1) := by decide +kernel
theorem d_D_stick_36 : decode b_D_stick 36 = .ok (.getfield 101, 3) := by decide +kernel
theorem d_D_stick_39 : decode b_D_stick 39 = .ok (.iload_n 1, 1) := by decide +kernel
theorem d_D_stick_40 : decode b_D_stick 40 = .ok (.invokestatic 98, 3) := by decide +kernel
theorem d_D_stick_43 : decode b_D_stick 43 = .ok (.ior, 1) := by decide +kernel
theorem d_D_stick_44 : decode b_D_stick 44 = .ok (.putfield 101, 3) := by decide +kernel
theorem d_D_stick_47 : decode b_D_stick 47 = .ok (.aload_n 0, 1) := by decide +kernel
theorem d_D_stick_48 : decode b_D_stick 48 = .ok (.getfield 29, 3) := by decide +kernel
theorem d_D_stick_51 : decode b_D_stick 51 = .ok (.getfield 123, 3) := by decide +kernel
theorem d_D_stick_54 : decode b_D_stick 54 = .ok (.iload_n 1, 1) := by decide +kernel
theorem d_D_stick_55 : decode b_D_stick 55 = .ok (.iaload, 1) := by decide +kernel
theorem d_D_stick_56 : decode b_D_stick 56 = .ok (.ireturn, 1) := by decide +kernel
abbrev b_D_pull : ByteArray := prog_1_method_13_code
def y_D_pull : MethodName := ⟨R_D, "pull", "(II)I"⟩
theorem mc_D_pull : Cond.code y_D_pull b_D_pull 4 (Option.some .int) ∈ lw_use := g_use (List.mem_of_getElem? (i := 322) (by decide +kernel)) rfl
theorem d_D_pull_0 : decode b_D_pull 0 = .ok (.aload_n 0, 1) := by decide +kernel
theorem d_D_pull_1 : decode b_D_pull 1 = .ok (.iload_n 1, 1) := by decide +kernel
theorem d_D_pull_2 : decode b_D_pull 2 = .ok (.invokevirtual 113, 3) := by decide +kernel
theorem d_D_pull_5 : decode b_D_pull 5 = .ok (.ifCond .eq 11, 3) := by decide +kernel
theorem d_D_pull_8 : decode b_D_pull 8 = .ok (.aload_n 0, 1) := by decide +kernel
theorem d_D_pull_9 : decode b_D_pull 9 = .ok (.iload_n 2, 1) := by decide +kernel
theorem d_D_pull_10 : decode b_D_pull 10 = .ok (.invokevirtual 113, 3) := by decide +kernel
theorem d_D_pull_13 : decode b_D_pull 13 = .ok (.ifCond .ne 5, 3) := by decide +kernel
theorem d_D_pull_16 : decode b_D_pull 16 = .ok (.iconst (-1), 1) := by decide +kernel
theorem d_D_pull_17 : decode b_D_pull 17 = .ok (.ireturn, 1) := by decide +kernel
theorem d_D_pull_18 : decode b_D_pull 18 = .ok (.aload_n 0, 1) := by decide +kernel
theorem d_D_pull_19 : decode b_D_pull 19 = .ok (.getfield 29, 3) := by decide +kernel
theorem d_D_pull_22 : decode b_D_pull 22 = .ok (.getfield 101, 3) := by decide +kernel
theorem d_D_pull_25 : decode b_D_pull 25 = .ok (.iload_n 2, 1) := by decide +kernel
theorem d_D_pull_26 : decode b_D_pull 26 = .ok (.invokestatic 150, 3) := by decide +kernel
theorem d_D_pull_29 : decode b_D_pull 29 = .ok (.ifCond .ne 6, 3) := by decide +kernel
theorem d_D_pull_32 : decode b_D_pull 32 = .ok (.bipush (-3), 2) := by decide +kernel
theorem d_D_pull_34 : decode b_D_pull 34 = .ok (.ireturn, 1) := by decide +kernel
theorem d_D_pull_35 : decode b_D_pull 35 = .ok (.aload_n 0, 1) := by decide +kernel
theorem d_D_pull_36 : decode b_D_pull 36 = .ok (.invokevirtual 137, 3) := by decide +kernel
theorem d_D_pull_39 : decode b_D_pull 39 = .ok (.aload_n 0, 1) := by decide +kernel
theorem d_D_pull_40 : decode b_D_pull 40 = .ok (.getfield 29, 3) := by decide +kernel
theorem d_D_pull_43 : decode b_D_pull 43 = .ok (.getfield 123, 3) := by decide +kernel
theorem d_D_pull_46 : decode b_D_pull 46 = .ok (.iload_n 2, 1) := by decide +kernel
theorem d_D_pull_47 : decode b_D_pull 47 = .ok (.iaload, 1) := by decide +kernel
theorem d_D_pull_48 : decode b_D_pull 48 = .ok (.istore_n 3, 1) := by decide +kernel
theorem d_D_pull_49 : decode b_D_pull 49 = .ok (.aload_n 0, 1) := by decide +kernel
theorem d_D_pull_50 : decode b_D_pull 50 = .ok (.getfield 29, 3) := by decide +kernel
theorem d_D_pull_53 : decode b_D_pull 53 = .ok (.dup, 1) := by decide +kernel
theorem d_D_pull_54 : decode b_D_pull 54 = .ok (.getfield 101, 3) := by decide +kernel
theorem d_D_pull_57 : decode b_D_pull 57 = .ok (.iload_n 2, 1) := by decide +kernel
theorem d_D_pull_58 : decode b_D_pull 58 = .ok (.invokestatic 98, 3) := by decide +kernel
theorem d_D_pull_61 : decode b_D_pull 61 = .ok (.iconst (-1), 1) := by decide +kernel
theorem d_D_pull_62 : decode b_D_pull 62 = .ok (.ixor, 1) := by decide +kernel
theorem d_D_pull_63 : decode b_D_pull 63 = .ok (.iand, 1) := by decide +kernel
theorem d_D_pull_64 : decode b_D_pull 64 = .ok (.putfield 101, 3) := by decide +kernel
theorem d_D_pull_67 : decode b_D_pull 67 = .ok (.aload_n 0, 1) := by decide +kernel
theorem d_D_pull_68 : decode b_D_pull 68 = .ok (.getfield 29, 3) := by decide +kernel
theorem d_D_pull_71 : decode b_D_pull 71 = .ok (.getfield 123, 3) := by decide +kernel
theorem d_D_pull_74 : decode b_D_pull 74 = .ok (.iload_n 2, 1) := by decide +kernel
theorem d_D_pull_75 : decode b_D_pull 75 = .ok (.iload_n 1, 1) := by decide +kernel
theorem d_D_pull_76 : decode b_D_pull 76 = .ok (.iastore, 1) := by decide +kernel
theorem d_D_pull_77 : decode b_D_pull 77 = .ok (.iload_n 3, 1) := by decide +kernel
theorem d_D_pull_78 : decode b_D_pull 78 = .ok (.ireturn, 1) := by decide +kernel
abbrev b_D_dam : ByteArray := prog_1_method_14_code
def y_D_dam : MethodName := ⟨R_D, "dam", "(I)I"⟩
theorem mc_D_dam : Cond.code y_D_dam b_D_dam 2 (Option.some .int) ∈ lw_use := g_use (List.mem_of_getElem? (i := 326) (by decide +kernel)) rfl
theorem d_D_dam_0 : decode b_D_dam 0 = .ok (.aload_n 0, 1) := by decide +kernel
theorem d_D_dam_1 : decode b_D_dam 1 = .ok (.iload_n 1, 1) := by decide +kernel
theorem d_D_dam_2 : decode b_D_dam 2 = .ok (.invokevirtual 113, 3) := by decide +kernel
theorem d_D_dam_5 : decode b_D_dam 5 = .ok (.ifCond .eq 13, 3) := by decide +kernel
theorem d_D_dam_8 : decode b_D_dam 8 = .ok (.iload_n 1, 1) := by decide +kernel
theorem d_D_dam_9 : decode b_D_dam 9 = .ok (.aload_n 0, 1) := by decide +kernel
theorem d_D_dam_10 : decode b_D_dam 10 = .ok (.getfield 69, 3) := by decide +kernel
theorem d_D_dam_13 : decode b_D_dam 13 = .ok (.iconst 1, 1) := by decide +kernel
theorem d_D_dam_14 : decode b_D_dam 14 = .ok (.isub, 1) := by decide +kernel
theorem d_D_dam_15 : decode b_D_dam 15 = .ok (.if_icmp .ne 5, 3) := by decide +kernel
theorem d_D_dam_18 : decode b_D_dam 18 = .ok (.iconst (-1), 1) := by decide +kernel
theorem d_D_dam_19 : decode b_D_dam 19 = .ok (.ireturn, 1) := by decide +kernel
theorem d_D_dam_20 : decode b_D_dam 20 = .ok (.aload_n 0, 1) := by decide +kernel
theorem d_D_dam_21 : decode b_D_dam 21 = .ok (.invokevirtual 137, 3) := by decide +kernel
theorem d_D_dam_24 : decode b_D_dam 24 = .ok (.aload_n 0, 1) := by decide +kernel
theorem d_D_dam_25 : decode b_D_dam 25 = .ok (.getfield 29, 3) := by decide +kernel
theorem d_D_dam_28 : decode b_D_dam 28 = .ok (.dup, 1) := by decide +kernel
theorem d_D_dam_29 : decode b_D_dam 29 = .ok (.getfield 92, 3) := by decide +kernel
theorem d_D_dam_32 : decode b_D_dam 32 = .ok (.iload_n 1, 1) := by decide +kernel
theorem d_D_dam_33 : decode b_D_dam 33 = .ok (.invokestatic 98, 3) := by decide +kernel
theorem d_D_dam_36 : decode b_D_dam 36 = .ok (.ixor, 1) := by decide +kernel
theorem d_D_dam_37 : decode b_D_dam 37 = .ok (.putfield 92, 3) := by decide +kernel
theorem d_D_dam_40 : decode b_D_dam 40 = .ok (.aload_n 0, 1) := by decide +kernel
theorem d_D_dam_41 : decode b_D_dam 41 = .ok (.getfield 29, 3) := by decide +kernel
theorem d_D_dam_44 : decode b_D_dam 44 = .ok (.getfield 92, 3) := by decide +kernel
theorem d_D_dam_47 : decode b_D_dam 47 = .ok (.iload_n 1, 1) := by decide +kernel
theorem d_D_dam_48 : decode b_D_dam 48 = .ok (.invokestatic 150, 3) := by decide +kernel
theorem d_D_dam_51 : decode b_D_dam 51 = .ok (.ifCond .eq 7, 3) := by decide +kernel
theorem d_D_dam_54 : decode b_D_dam 54 = .ok (.iconst 1, 1) := by decide +kernel
theorem d_D_dam_55 : decode b_D_dam 55 = .ok (.goto 4, 3) := by decide +kernel
theorem d_D_dam_58 : decode b_D_dam 58 = .ok (.iconst 0, 1) := by decide +kernel
theorem d_D_dam_59 : decode b_D_dam 59 = .ok (.ireturn, 1) := by decide +kernel
abbrev b_D_undo : ByteArray := prog_1_method_15_code
def y_D_undo : MethodName := ⟨R_D, "undo", "()I"⟩
theorem mc_D_undo : Cond.code y_D_undo b_D_undo 1 (Option.some .int) ∈ lw_use := g_use (List.mem_of_getElem? (i := 330) (by decide +kernel)) rfl
theorem d_D_undo_0 : decode b_D_undo 0 = .ok (.aload_n 0, 1) := by decide +kernel
theorem d_D_undo_1 : decode b_D_undo 1 = .ok (.getfield 72, 3) := by decide +kernel
theorem d_D_undo_4 : decode b_D_undo 4 = .ok (.iconst 1, 1) := by decide +kernel
theorem d_D_undo_5 : decode b_D_undo 5 = .ok (.if_icmp .ge 6, 3) := by decide +kernel
theorem d_D_undo_8 : decode b_D_undo 8 = .ok (.bipush (-3), 2) := by decide +kernel
theorem d_D_undo_10 : decode b_D_undo 10 = .ok (.ireturn, 1) := by decide +kernel
theorem d_D_undo_11 : decode b_D_undo 11 = .ok (.aload_n 0, 1) := by decide +kernel
theorem d_D_undo_12 : decode b_D_undo 12 = .ok (.dup, 1) := by decide +kernel
theorem d_D_undo_13 : decode b_D_undo 13 = .ok (.getfield 72, 3) := by decide +kernel
theorem d_D_undo_16 : decode b_D_undo 16 = .ok (.iconst 1, 1) := by decide +kernel
theorem d_D_undo_17 : decode b_D_undo 17 = .ok (.isub, 1) := by decide +kernel
theorem d_D_undo_18 : decode b_D_undo 18 = .ok (.putfield 72, 3) := by decide +kernel
theorem d_D_undo_21 : decode b_D_undo 21 = .ok (.aload_n 0, 1) := by decide +kernel
theorem d_D_undo_22 : decode b_D_undo 22 = .ok (.getfield 29, 3) := by decide +kernel
theorem d_D_undo_25 : decode b_D_undo 25 = .ok (.aload_n 0, 1) := by decide +kernel
theorem d_D_undo_26 : decode b_D_undo 26 = .ok (.getfield 33, 3) := by decide +kernel
theorem d_D_undo_29 : decode b_D_undo 29 = .ok (.aload_n 0, 1) := by decide +kernel
theorem d_D_undo_30 : decode b_D_undo 30 = .ok (.aload_n 0, 1) := by decide +kernel
theorem d_D_undo_31 : decode b_D_undo 31 = .ok (.getfield 72, 3) := by decide +kernel
theorem d_D_undo_34 : decode b_D_undo 34 = .ok (.invokevirtual 154, 3) := by decide +kernel
theorem d_D_undo_37 : decode b_D_undo 37 = .ok (.aaload, 1) := by decide +kernel
theorem d_D_undo_38 : decode b_D_undo 38 = .ok (.invokevirtual 157, 3) := by decide +kernel
theorem d_D_undo_41 : decode b_D_undo 41 = .ok (.aload_n 0, 1) := by decide +kernel
theorem d_D_undo_42 : decode b_D_undo 42 = .ok (.getfield 72, 3) := by decide +kernel
theorem d_D_undo_45 : decode b_D_undo 45 = .ok (.ireturn, 1) := by decide +kernel
abbrev b_D_breaks : ByteArray := prog_1_method_16_code
def y_D_breaks : MethodName := ⟨R_D, "breaks", "(I)I"⟩
theorem mc_D_breaks : Cond.code y_D_breaks b_D_breaks 2 (Option.some .int) ∈ lw_use := g_use (List.mem_of_getElem? (i := 334) (by decide +kernel)) rfl
theorem d_D_breaks_0 : decode b_D_breaks 0 = .ok (.iload_n 1, 1) := by decide +kernel
theorem d_D_breaks_1 : decode b_D_breaks 1 = .ok (.invokestatic 134, 3) := by decide +kernel
theorem d_D_breaks_4 : decode b_D_breaks 4 = .ok (.ifCond .eq 11, 3) := by decide +kernel
theorem d_D_breaks_7 : decode b_D_breaks 7 = .ok (.aload_n 0, 1) := by decide +kernel
theorem d_D_breaks_8 : decode b_D_breaks 8 = .ok (.iload_n 1, 1) := by decide +kernel
theorem d_D_breaks_9 : decode b_D_breaks 9 = .ok (.invokevirtual 161, 3) := by decide +kernel
theorem d_D_breaks_12 : decode b_D_breaks 12 = .ok (.goto 5, 3) := by decide +kernel
theorem d_D_breaks_15 : decode b_D_breaks 15 = .ok (.bipush (-2), 2) := by decide +kernel
theorem d_D_breaks_17 : decode b_D_breaks 17 = .ok (.ireturn, 1) := by decide +kernel
abbrev b_D_drowns : ByteArray := prog_1_method_17_code
def y_D_drowns : MethodName := ⟨R_D, "drowns", "(I)I"⟩
theorem mc_D_drowns : Cond.code y_D_drowns b_D_drowns 2 (Option.some .int) ∈ lw_use := g_use (List.mem_of_getElem? (i := 342) (by decide +kernel)) rfl
theorem d_D_drowns_0 : decode b_D_drowns 0 = .ok (.iload_n 1, 1) := by decide +kernel
theorem d_D_drowns_1 : decode b_D_drowns 1 = .ok (.invokestatic 134, 3) := by decide +kernel
theorem d_D_drowns_4 : decode b_D_drowns 4 = .ok (.ifCond .eq 15, 3) := by decide +kernel
theorem d_D_drowns_7 : decode b_D_drowns 7 = .ok (.aload_n 0, 1) := by decide +kernel
theorem d_D_drowns_8 : decode b_D_drowns 8 = .ok (.aload_n 0, 1) := by decide +kernel
theorem d_D_drowns_9 : decode b_D_drowns 9 = .ok (.iload_n 1, 1) := by decide +kernel
theorem d_D_drowns_10 : decode b_D_drowns 10 = .ok (.invokevirtual 161, 3) := by decide +kernel
theorem d_D_drowns_13 : decode b_D_drowns 13 = .ok (.invokevirtual 144, 3) := by decide +kernel
theorem d_D_drowns_16 : decode b_D_drowns 16 = .ok (.goto 5, 3) := by decide +kernel
theorem d_D_drowns_19 : decode b_D_drowns 19 = .ok (.bipush (-2), 2) := by decide +kernel
theorem d_D_drowns_21 : decode b_D_drowns 21 = .ok (.ireturn, 1) := by decide +kernel
abbrev b_D_loss : ByteArray := prog_1_method_18_code
def y_D_loss : MethodName := ⟨R_D, "loss", "(I)I"⟩
theorem mc_D_loss : Cond.code y_D_loss b_D_loss 2 (Option.some .int) ∈ lw_use := g_use (List.mem_of_getElem? (i := 346) (by decide +kernel)) rfl
theorem d_D_loss_0 : decode b_D_loss 0 = .ok (.iload_n 1, 1) := by decide +kernel
theorem d_D_loss_1 : decode b_D_loss 1 = .ok (.invokestatic 134, 3) := by decide +kernel
theorem d_D_loss_4 : decode b_D_loss 4 = .ok (.ifCond .eq 19, 3) := by decide +kernel
theorem d_D_loss_7 : decode b_D_loss 7 = .ok (.aload_n 0, 1) := by decide +kernel
theorem d_D_loss_8 : decode b_D_loss 8 = .ok (.aload_n 0, 1) := by decide +kernel
theorem d_D_loss_9 : decode b_D_loss 9 = .ok (.aload_n 0, 1) := by decide +kernel
theorem d_D_loss_10 : decode b_D_loss 10 = .ok (.iload_n 1, 1) := by decide +kernel
theorem d_D_loss_11 : decode b_D_loss 11 = .ok (.invokevirtual 161, 3) := by decide +kernel
theorem d_D_loss_14 : decode b_D_loss 14 = .ok (.invokevirtual 144, 3) := by decide +kernel
theorem d_D_loss_17 : decode b_D_loss 17 = .ok (.invokevirtual 147, 3) := by decide +kernel
theorem d_D_loss_20 : decode b_D_loss 20 = .ok (.goto 5, 3) := by decide +kernel
theorem d_D_loss_23 : decode b_D_loss 23 = .ok (.bipush (-2), 2) := by decide +kernel
theorem d_D_loss_25 : decode b_D_loss 25 = .ok (.ireturn, 1) := by decide +kernel
abbrev b_D_needs : ByteArray := prog_1_method_19_code
def y_D_needs : MethodName := ⟨R_D, "needs", "(I)I"⟩
theorem mc_D_needs : Cond.code y_D_needs b_D_needs 2 (Option.some .int) ∈ lw_use := g_use (List.mem_of_getElem? (i := 350) (by decide +kernel)) rfl
theorem d_D_needs_0 : decode b_D_needs 0 = .ok (.iload_n 1, 1) := by decide +kernel
theorem d_D_needs_1 : decode b_D_needs 1 = .ok (.invokestatic 134, 3) := by decide +kernel
theorem d_D_needs_4 : decode b_D_needs 4 = .ok (.ifCond .eq 15, 3) := by decide +kernel
theorem d_D_needs_7 : decode b_D_needs 7 = .ok (.aload_n 0, 1) := by decide +kernel
theorem d_D_needs_8 : decode b_D_needs 8 = .ok (.aload_n 0, 1) := by decide +kernel
theorem d_D_needs_9 : decode b_D_needs 9 = .ok (.invokevirtual 107, 3) := by decide +kernel
theorem d_D_needs_12 : decode b_D_needs 12 = .ok (.iload_n 1, 1) := by decide +kernel
theorem d_D_needs_13 : decode b_D_needs 13 = .ok (.invokevirtual 164, 3) := by decide +kernel
theorem d_D_needs_16 : decode b_D_needs 16 = .ok (.goto 5, 3) := by decide +kernel
theorem d_D_needs_19 : decode b_D_needs 19 = .ok (.bipush (-2), 2) := by decide +kernel
theorem d_D_needs_21 : decode b_D_needs 21 = .ok (.ireturn, 1) := by decide +kernel
abbrev b_D_placing : ByteArray := prog_1_method_20_code
def y_D_placing : MethodName := ⟨R_D, "placing", "(III)I"⟩
theorem mc_D_placing : Cond.code y_D_placing b_D_placing 5 (Option.some .int) ∈ lw_use := g_use (List.mem_of_getElem? (i := 358) (by decide +kernel)) rfl
theorem d_D_placing_0 : decode b_D_placing 0 = .ok (.iload_n 1, 1) := by decide +kernel
theorem d_D_placing_1 : decode b_D_placing 1 = .ok (.ifCond .lt 25, 3) := by decide +kernel
theorem d_D_placing_4 : decode b_D_placing 4 = .ok (.iload_n 1, 1) := by decide +kernel
theorem d_D_placing_5 : decode b_D_placing 5 = .ok (.bipush 60, 2) := by decide +kernel
theorem d_D_placing_7 : decode b_D_placing 7 = .ok (.if_icmp .gt 19, 3) := by decide +kernel
theorem d_D_placing_10 : decode b_D_placing 10 = .ok (.iload_n 2, 1) := by decide +kernel
theorem d_D_placing_11 : decode b_D_placing 11 = .ok (.invokestatic 134, 3) := by decide +kernel
theorem d_D_placing_14 : decode b_D_placing 14 = .ok (.ifCond .eq 12, 3) := by decide +kernel
theorem d_D_placing_17 : decode b_D_placing 17 = .ok (.iload_n 3, 1) := by decide +kernel
theorem d_D_placing_18 : decode b_D_placing 18 = .ok (.ifCond .lt 8, 3) := by decide +kernel
theorem d_D_placing_21 : decode b_D_placing 21 = .ok (.iload_n 3, 1) := by decide +kernel
theorem d_D_placing_22 : decode b_D_placing 22 = .ok (.iconst 1, 1) := by decide +kernel
theorem d_D_placing_23 : decode b_D_placing 23 = .ok (.if_icmp .le 6, 3) := by decide +kernel
theorem d_D_placing_26 : decode b_D_placing 26 = .ok (.bipush (-2), 2) := by decide +kernel
theorem d_D_placing_28 : decode b_D_placing 28 = .ok (.ireturn, 1) := by decide +kernel
theorem d_D_placing_29 : decode b_D_placing 29 = .ok (.aload_n 0, 1) := by decide +kernel
theorem d_D_placing_30 : decode b_D_placing 30 = .ok (.iload_n 2, 1) := by decide +kernel
theorem d_D_placing_31 : decode b_D_placing 31 = .ok (.invokevirtual 167, 3) := by decide +kernel
theorem d_D_placing_34 : decode b_D_placing 34 = .ok (.aload_n 0, 1) := by decide +kernel
theorem d_D_placing_35 : decode b_D_placing 35 = .ok (.iload_n 1, 1) := by decide +kernel
theorem d_D_placing_36 : decode b_D_placing 36 = .ok (.invokevirtual 170, 3) := by decide +kernel
theorem d_D_placing_39 : decode b_D_placing 39 = .ok (.istore 4, 2) := by decide +kernel
theorem d_D_placing_41 : decode b_D_placing 41 = .ok (.iload_n 3, 1) := by decide +kernel
theorem d_D_placing_42 : decode b_D_placing 42 = .ok (.ifCond .ne 13, 3) := by decide +kernel
theorem d_D_placing_45 : decode b_D_placing 45 = .ok (.aload_n 0, 1) := by decide +kernel
theorem d_D_placing_46 : decode b_D_placing 46 = .ok (.getfield 49, 3) := by decide +kernel
theorem d_D_placing_49 : decode b_D_placing 49 = .ok (.iload 4, 2) := by decide +kernel
theorem d_D_placing_51 : decode b_D_placing 51 = .ok (.iaload, 1) := by decide +kernel
theorem d_D_placing_52 : decode b_D_placing 52 = .ok (.goto 5, 3) := by decide +kernel
theorem d_D_placing_55 : decode b_D_placing 55 = .ok (.iload 4, 2) := by decide +kernel
theorem d_D_placing_57 : decode b_D_placing 57 = .ok (.ireturn, 1) := by decide +kernel
abbrev b_D_all : ByteArray := prog_1_method_21_code
def y_D_all : MethodName := ⟨R_D, "all", "()I"⟩
theorem mc_D_all : Cond.code y_D_all b_D_all 5 (Option.some .int) ∈ lw_use := g_use (List.mem_of_getElem? (i := 375) (by decide +kernel)) rfl
theorem d_D_all_0 : decode b_D_all 0 = .ok (.bipush (-9), 2) := by decide +kernel
theorem d_D_all_2 : decode b_D_all 2 = .ok (.istore_n 1, 1) := by decide +kernel
theorem d_D_all_3 : decode b_D_all 3 = .ok (.iconst (-1), 1) := by decide +kernel
theorem d_D_all_4 : decode b_D_all 4 = .ok (.istore_n 2, 1) := by decide +kernel
theorem d_D_all_5 : decode b_D_all 5 = .ok (.iconst 0, 1) := by decide +kernel
theorem d_D_all_6 : decode b_D_all 6 = .ok (.istore_n 3, 1) := by decide +kernel
theorem d_D_all_7 : decode b_D_all 7 = .ok (.iload_n 3, 1) := by decide +kernel
theorem d_D_all_8 : decode b_D_all 8 = .ok (.aload_n 0, 1) := by decide +kernel
theorem d_D_all_9 : decode b_D_all 9 = .ok (.getfield 69, 3) := by decide +kernel
theorem d_D_all_12 : decode b_D_all 12 = .ok (.if_icmp .ge 34, 3) := by decide +kernel
theorem d_D_all_15 : decode b_D_all 15 = .ok (.aload_n 0, 1) := by decide +kernel
theorem d_D_all_16 : decode b_D_all 16 = .ok (.aload_n 0, 1) := by decide +kernel
theorem d_D_all_17 : decode b_D_all 17 = .ok (.iload_n 3, 1) := by decide +kernel
theorem d_D_all_18 : decode b_D_all 18 = .ok (.invokestatic 98, 3) := by decide +kernel
theorem d_D_all_21 : decode b_D_all 21 = .ok (.invokevirtual 144, 3) := by decide +kernel
theorem d_D_all_24 : decode b_D_all 24 = .ok (.invokevirtual 147, 3) := by decide +kernel
theorem d_D_all_27 : decode b_D_all 27 = .ok (.istore 4, 2) := by decide +kernel
theorem d_D_all_29 : decode b_D_all 29 = .ok (.iload 4, 2) := by decide +kernel
theorem d_D_all_31 : decode b_D_all 31 = .ok (.iload_n 2, 1) := by decide +kernel
theorem d_D_all_32 : decode b_D_all 32 = .ok (.if_icmp .le 8, 3) := by decide +kernel
theorem d_D_all_35 : decode b_D_all 35 = .ok (.iload 4, 2) := by decide +kernel
theorem d_D_all_37 : decode b_D_all 37 = .ok (.istore_n 2, 1) := by decide +kernel
theorem d_D_all_38 : decode b_D_all 38 = .ok (.iload_n 3, 1) := by decide +kernel
theorem d_D_all_39 : decode b_D_all 39 = .ok (.istore_n 1, 1) := by decide +kernel
theorem d_D_all_40 : decode b_D_all 40 = .ok (.iinc 3 1, 3) := by decide +kernel
theorem d_D_all_43 : decode b_D_all 43 = .ok (.goto (-36), 3) := by decide +kernel
theorem d_D_all_46 : decode b_D_all 46 = .ok (.iload_n 1, 1) := by decide +kernel
theorem d_D_all_47 : decode b_D_all 47 = .ok (.ireturn, 1) := by decide +kernel
abbrev b_D_told : ByteArray := prog_1_method_22_code
def y_D_told : MethodName := ⟨R_D, "told", "(IIJI)I"⟩
theorem mc_D_told : Cond.code y_D_told b_D_told 10 (Option.some .int) ∈ lw_use := g_use (List.mem_of_getElem? (i := 379) (by decide +kernel)) rfl
theorem d_D_told_0 : decode b_D_told 0 = .ok (.aload_n 0, 1) := by decide +kernel
theorem d_D_told_1 : decode b_D_told 1 = .ok (.iload_n 1, 1) := by decide +kernel
theorem d_D_told_2 : decode b_D_told 2 = .ok (.invokevirtual 113, 3) := by decide +kernel
theorem d_D_told_5 : decode b_D_told 5 = .ok (.ifCond .ne 5, 3) := by decide +kernel
theorem d_D_told_8 : decode b_D_told 8 = .ok (.iconst (-1), 1) := by decide +kernel
theorem d_D_told_9 : decode b_D_told 9 = .ok (.ireturn, 1) := by decide +kernel
theorem d_D_told_10 : decode b_D_told 10 = .ok (.iload_n 2, 1) := by decide +kernel
theorem d_D_told_11 : decode b_D_told 11 = .ok (.iconst 1, 1) := by decide +kernel
theorem d_D_told_12 : decode b_D_told 12 = .ok (.if_icmp .lt 28, 3) := by decide +kernel
theorem d_D_told_15 : decode b_D_told 15 = .ok (.iload_n 2, 1) := by decide +kernel
theorem d_D_told_16 : decode b_D_told 16 = .ok (.iconst 5, 1) := by decide +kernel
theorem d_D_told_17 : decode b_D_told 17 = .ok (.if_icmp .gt 23, 3) := by decide +kernel
theorem d_D_told_20 : decode b_D_told 20 = .ok (.aload_n 0, 1) := by decide +kernel
theorem d_D_told_21 : decode b_D_told 21 = .ok (.iload_n 2, 1) := by decide +kernel
theorem d_D_told_22 : decode b_D_told 22 = .ok (.lload_n 3, 1) := by decide +kernel
theorem d_D_told_23 : decode b_D_told 23 = .ok (.invokevirtual 173, 3) := by decide +kernel
theorem d_D_told_26 : decode b_D_told 26 = .ok (.ifCond .eq 14, 3) := by decide +kernel
theorem d_D_told_29 : decode b_D_told 29 = .ok (.iload 5, 2) := by decide +kernel
theorem d_D_told_31 : decode b_D_told 31 = .ok (.ifCond .lt 9, 3) := by decide +kernel
theorem d_D_told_34 : decode b_D_told 34 = .ok (.iload 5, 2) := by decide +kernel
theorem d_D_told_36 : decode b_D_told 36 = .ok (.iconst 2, 1) := by decide +kernel
theorem d_D_told_37 : decode b_D_told 37 = .ok (.if_icmp .le 6, 3) := by decide +kernel
theorem d_D_told_40 : decode b_D_told 40 = .ok (.bipush (-2), 2) := by decide +kernel
theorem d_D_told_42 : decode b_D_told 42 = .ok (.ireturn, 1) := by decide +kernel
theorem d_D_told_43 : decode b_D_told 43 = .ok (.bipush (-9), 2) := by decide +kernel
theorem d_D_told_45 : decode b_D_told 45 = .ok (.istore 6, 2) := by decide +kernel
theorem d_D_told_47 : decode b_D_told 47 = .ok (.bipush (-9), 2) := by decide +kernel
theorem d_D_told_49 : decode b_D_told 49 = .ok (.istore 7, 2) := by decide +kernel
theorem d_D_told_51 : decode b_D_told 51 = .ok (.aload_n 0, 1) := by decide +kernel
theorem d_D_told_52 : decode b_D_told 52 = .ok (.getfield 29, 3) := by decide +kernel
theorem d_D_told_55 : decode b_D_told 55 = .ok (.getfield 117, 3) := by decide +kernel
theorem d_D_told_58 : decode b_D_told 58 = .ok (.aload_n 0, 1) := by decide +kernel
theorem d_D_told_59 : decode b_D_told 59 = .ok (.getfield 40, 3) := by decide +kernel
theorem d_D_told_62 : decode b_D_told 62 = .ok (.invokestatic 177, 3) := by decide +kernel
theorem d_D_told_65 : decode b_D_told 65 = .ok (.iconst 0, 1) := by decide +kernel
theorem d_D_told_66 : decode b_D_told 66 = .ok (.istore 8, 2) := by decide +kernel
theorem d_D_told_68 : decode b_D_told 68 = .ok (.iload 8, 2) := by decide +kernel
theorem d_D_told_70 : decode b_D_told 70 = .ok (.iload_n 2, 1) := by decide +kernel
theorem d_D_told_71 : decode b_D_told 71 = .ok (.if_icmp .ge 62, 3) := by decide +kernel
theorem d_D_told_74 : decode b_D_told 74 = .ok (.aload_n 0, 1) := by decide +kernel
theorem d_D_told_75 : decode b_D_told 75 = .ok (.aload_n 0, 1) := by decide +kernel
theorem d_D_told_76 : decode b_D_told 76 = .ok (.getfield 40, 3) := by decide +kernel
theorem d_D_told_79 : decode b_D_told 79 = .ok (.aload_n 0, 1) := by decide +kernel
theorem d_D_told_80 : decode b_D_told 80 = .ok (.getfield 43, 3) := by decide +kernel
theorem d_D_told_83 : decode b_D_told 83 = .ok (.iload 8, 2) := by decide +kernel
theorem d_D_told_85 : decode b_D_told 85 = .ok (.iaload, 1) := by decide +kernel
theorem d_D_told_86 : decode b_D_told 86 = .ok (.invokevirtual 140, 3) := by decide +kernel
theorem d_D_told_89 : decode b_D_told 89 = .ok (.istore 9, 2) := by decide +kernel
theorem d_D_told_91 : decode b_D_told 91 = .ok (.iload 6, 2) := by decide +kernel
theorem d_D_told_93 : decode b_D_told 93 = .ok (.bipush (-9), 2) := by decide +kernel
theorem d_D_told_95 : decode b_D_told 95 = .ok (.if_icmp .ne 12, 3) := by decide +kernel
theorem d_D_told_98 : decode b_D_told 98 = .ok (.iload 9, 2) := by decide +kernel
theorem d_D_told_100 : decode b_D_told 100 = .ok (.ifCond .eq 7, 3) := by decide +kernel
theorem d_D_told_103 : decode b_D_told 103 = .ok (.iload 8, 2) := by decide +kernel
theorem d_D_told_105 : decode b_D_told 105 = .ok (.istore 6, 2) := by decide +kernel
theorem d_D_told_107 : decode b_D_told 107 = .ok (.iload 7, 2) := by decide +kernel
theorem d_D_told_109 : decode b_D_told 109 = .ok (.bipush (-9), 2) := by decide +kernel
theorem d_D_told_111 : decode b_D_told 111 = .ok (.if_icmp .ne 16, 3) := by decide +kernel
theorem d_D_told_114 : decode b_D_told 114 = .ok (.iload 9, 2) := by decide +kernel
theorem d_D_told_116 : decode b_D_told 116 = .ok (.iload_n 1, 1) := by decide +kernel
theorem d_D_told_117 : decode b_D_told 117 = .ok (.invokestatic 150, 3) := by decide +kernel
theorem d_D_told_120 : decode b_D_told 120 = .ok (.ifCond .eq 7, 3) := by decide +kernel
theorem d_D_told_123 : decode b_D_told 123 = .ok (.iload 8, 2) := by decide +kernel
theorem d_D_told_125 : decode b_D_told 125 = .ok (.istore 7, 2) := by decide +kernel
theorem d_D_told_127 : decode b_D_told 127 = .ok (.iinc 8 1, 3) := by decide +kernel
theorem d_D_told_130 : decode b_D_told 130 = .ok (.goto (-62), 3) := by decide +kernel
theorem d_D_told_133 : decode b_D_told 133 = .ok (.iload 5, 2) := by decide +kernel
theorem d_D_told_135 : decode b_D_told 135 = .ok (.iconst 2, 1) := by decide +kernel
theorem d_D_told_136 : decode b_D_told 136 = .ok (.if_icmp .ne 10, 3) := by decide +kernel
theorem d_D_told_139 : decode b_D_told 139 = .ok (.aload_n 0, 1) := by decide +kernel
theorem d_D_told_140 : decode b_D_told 140 = .ok (.getfield 40, 3) := by decide +kernel
theorem d_D_told_143 : decode b_D_told 143 = .ok (.iload_n 1, 1) := by decide +kernel
theorem d_D_told_144 : decode b_D_told 144 = .ok (.iaload, 1) := by decide +kernel
theorem d_D_told_145 : decode b_D_told 145 = .ok (.ireturn, 1) := by decide +kernel
theorem d_D_told_146 : decode b_D_told 146 = .ok (.iload 5, 2) := by decide +kernel
theorem d_D_told_148 : decode b_D_told 148 = .ok (.ifCond .ne 8, 3) := by decide +kernel
theorem d_D_told_151 : decode b_D_told 151 = .ok (.iload 6, 2) := by decide +kernel
theorem d_D_told_153 : decode b_D_told 153 = .ok (.goto 5, 3) := by decide +kernel
theorem d_D_told_156 : decode b_D_told 156 = .ok (.iload 7, 2) := by decide +kernel
theorem d_D_told_158 : decode b_D_told 158 = .ok (.ireturn, 1) := by decide +kernel
abbrev b_D_wet : ByteArray := prog_1_method_23_code
def y_D_wet : MethodName := ⟨R_D, "wet", "(II)I"⟩
theorem mc_D_wet : Cond.code y_D_wet b_D_wet 7 (Option.some .int) ∈ lw_use := g_use (List.mem_of_getElem? (i := 389) (by decide +kernel)) rfl
theorem d_D_wet_0 : decode b_D_wet 0 = .ok (.iload_n 1, 1) := by decide +kernel
theorem d_D_wet_1 : decode b_D_wet 1 = .ok (.ifCond .lt 20, 3) := by decide +kernel
theorem d_D_wet_4 : decode b_D_wet 4 = .ok (.iload_n 1, 1) := by decide +kernel
theorem d_D_wet_5 : decode b_D_wet 5 = .ok (.aload_n 0, 1) := by decide +kernel
theorem d_D_wet_6 : decode b_D_wet 6 = .ok (.invokevirtual 107, 3) := by decide +kernel
theorem d_D_wet_9 : decode b_D_wet 9 = .ok (.if_icmp .gt 12, 3) := by decide +kernel
theorem d_D_wet_12 : decode b_D_wet 12 = .ok (.iload_n 2, 1) := by decide +kernel
theorem d_D_wet_13 : decode b_D_wet 13 = .ok (.ifCond .lt 8, 3) := by decide +kernel
theorem d_D_wet_16 : decode b_D_wet 16 = .ok (.iload_n 2, 1) := by decide +kernel
theorem d_D_wet_17 : decode b_D_wet 17 = .ok (.iconst 2, 1) := by decide +kernel
theorem d_D_wet_18 : decode b_D_wet 18 = .ok (.if_icmp .le 6, 3) := by decide +kernel
theorem d_D_wet_21 : decode b_D_wet 21 = .ok (.bipush (-2), 2) := by decide +kernel
theorem d_D_wet_23 : decode b_D_wet 23 = .ok (.ireturn, 1) := by decide +kernel
theorem d_D_wet_24 : decode b_D_wet 24 = .ok (.iconst 0, 1) := by decide +kernel
theorem d_D_wet_25 : decode b_D_wet 25 = .ok (.istore_n 3, 1) := by decide +kernel
theorem d_D_wet_26 : decode b_D_wet 26 = .ok (.aload_n 0, 1) := by decide +kernel
theorem d_D_wet_27 : decode b_D_wet 27 = .ok (.invokevirtual 107, 3) := by decide +kernel
theorem d_D_wet_30 : decode b_D_wet 30 = .ok (.istore 4, 2) := by decide +kernel
theorem d_D_wet_32 : decode b_D_wet 32 = .ok (.iconst 0, 1) := by decide +kernel
theorem d_D_wet_33 : decode b_D_wet 33 = .ok (.istore 5, 2) := by decide +kernel
theorem d_D_wet_35 : decode b_D_wet 35 = .ok (.iconst 0, 1) := by decide +kernel
theorem d_D_wet_36 : decode b_D_wet 36 = .ok (.istore 6, 2) := by decide +kernel
theorem d_D_wet_38 : decode b_D_wet 38 = .ok (.iload 6, 2) := by decide +kernel
theorem d_D_wet_40 : decode b_D_wet 40 = .ok (.aload_n 0, 1) := by decide +kernel
theorem d_D_wet_41 : decode b_D_wet 41 = .ok (.invokevirtual 107, 3) := by decide +kernel
theorem d_D_wet_44 : decode b_D_wet 44 = .ok (.if_icmp .gt 36, 3) := by decide +kernel
theorem d_D_wet_47 : decode b_D_wet 47 = .ok (.aload_n 0, 1) := by decide +kernel
theorem d_D_wet_48 : decode b_D_wet 48 = .ok (.iload 6, 2) := by decide +kernel
theorem d_D_wet_50 : decode b_D_wet 50 = .ok (.invokevirtual 144, 3) := by decide +kernel
theorem d_D_wet_53 : decode b_D_wet 53 = .ok (.iload_n 1, 1) := by decide +kernel
theorem d_D_wet_54 : decode b_D_wet 54 = .ok (.if_icmp .ne 20, 3) := by decide +kernel
theorem d_D_wet_57 : decode b_D_wet 57 = .ok (.iinc 3 1, 3) := by decide +kernel
theorem d_D_wet_60 : decode b_D_wet 60 = .ok (.iload 4, 2) := by decide +kernel
theorem d_D_wet_62 : decode b_D_wet 62 = .ok (.iload 6, 2) := by decide +kernel
theorem d_D_wet_64 : decode b_D_wet 64 = .ok (.iand, 1) := by decide +kernel
theorem d_D_wet_65 : decode b_D_wet 65 = .ok (.istore 4, 2) := by decide +kernel
theorem d_D_wet_67 : decode b_D_wet 67 = .ok (.iload 5, 2) := by decide +kernel
theorem d_D_wet_69 : decode b_D_wet 69 = .ok (.iload 6, 2) := by decide +kernel
theorem d_D_wet_71 : decode b_D_wet 71 = .ok (.ior, 1) := by decide +kernel
theorem d_D_wet_72 : decode b_D_wet 72 = .ok (.istore 5, 2) := by decide +kernel
theorem d_D_wet_74 : decode b_D_wet 74 = .ok (.iinc 6 1, 3) := by decide +kernel
theorem d_D_wet_77 : decode b_D_wet 77 = .ok (.goto (-39), 3) := by decide +kernel
theorem d_D_wet_80 : decode b_D_wet 80 = .ok (.iload_n 2, 1) := by decide +kernel
theorem d_D_wet_81 : decode b_D_wet 81 = .ok (.ifCond .ne 5, 3) := by decide +kernel
theorem d_D_wet_84 : decode b_D_wet 84 = .ok (.iload_n 3, 1) := by decide +kernel
theorem d_D_wet_85 : decode b_D_wet 85 = .ok (.ireturn, 1) := by decide +kernel
theorem d_D_wet_86 : decode b_D_wet 86 = .ok (.iload_n 3, 1) := by decide +kernel
theorem d_D_wet_87 : decode b_D_wet 87 = .ok (.ifCond .ne 6, 3) := by decide +kernel
theorem d_D_wet_90 : decode b_D_wet 90 = .ok (.bipush (-9), 2) := by decide +kernel
theorem d_D_wet_92 : decode b_D_wet 92 = .ok (.ireturn, 1) := by decide +kernel
theorem d_D_wet_93 : decode b_D_wet 93 = .ok (.iload_n 2, 1) := by decide +kernel
theorem d_D_wet_94 : decode b_D_wet 94 = .ok (.iconst 1, 1) := by decide +kernel
theorem d_D_wet_95 : decode b_D_wet 95 = .ok (.if_icmp .ne 8, 3) := by decide +kernel
theorem d_D_wet_98 : decode b_D_wet 98 = .ok (.iload 4, 2) := by decide +kernel
theorem d_D_wet_100 : decode b_D_wet 100 = .ok (.goto 12, 3) := by decide +kernel
theorem d_D_wet_103 : decode b_D_wet 103 = .ok (.aload_n 0, 1) := by decide +kernel
theorem d_D_wet_104 : decode b_D_wet 104 = .ok (.invokevirtual 107, 3) := by decide +kernel
theorem d_D_wet_107 : decode b_D_wet 107 = .ok (.iload 5, 2) := by decide +kernel
theorem d_D_wet_109 : decode b_D_wet 109 = .ok (.iconst (-1), 1) := by decide +kernel
theorem d_D_wet_110 : decode b_D_wet 110 = .ok (.ixor, 1) := by decide +kernel
theorem d_D_wet_111 : decode b_D_wet 111 = .ok (.iand, 1) := by decide +kernel
theorem d_D_wet_112 : decode b_D_wet 112 = .ok (.ireturn, 1) := by decide +kernel
abbrev b_D_net : ByteArray := prog_1_method_24_code
def y_D_net : MethodName := ⟨R_D, "net", "(I)I"⟩
theorem mc_D_net : Cond.code y_D_net b_D_net 2 (Option.some .int) ∈ lw_use := g_use (List.mem_of_getElem? (i := 393) (by decide +kernel)) rfl
theorem d_D_net_0 : decode b_D_net 0 = .ok (.aload_n 0, 1) := by decide +kernel
theorem d_D_net_1 : decode b_D_net 1 = .ok (.iload_n 1, 1) := by decide +kernel
theorem d_D_net_2 : decode b_D_net 2 = .ok (.invokevirtual 113, 3) := by decide +kernel
theorem d_D_net_5 : decode b_D_net 5 = .ok (.ifCond .eq 14, 3) := by decide +kernel
theorem d_D_net_8 : decode b_D_net 8 = .ok (.bipush 100, 2) := by decide +kernel
theorem d_D_net_10 : decode b_D_net 10 = .ok (.aload_n 0, 1) := by decide +kernel
theorem d_D_net_11 : decode b_D_net 11 = .ok (.iload_n 1, 1) := by decide +kernel
theorem d_D_net_12 : decode b_D_net 12 = .ok (.invokevirtual 181, 3) := by decide +kernel
theorem d_D_net_15 : decode b_D_net 15 = .ok (.iadd, 1) := by decide +kernel
theorem d_D_net_16 : decode b_D_net 16 = .ok (.goto 4, 3) := by decide +kernel
theorem d_D_net_19 : decode b_D_net 19 = .ok (.iconst (-1), 1) := by decide +kernel
theorem d_D_net_20 : decode b_D_net 20 = .ok (.ireturn, 1) := by decide +kernel
abbrev b_D_payings : ByteArray := prog_1_method_25_code
def y_D_payings : MethodName := ⟨R_D, "payings", "()I"⟩
theorem mc_D_payings : Cond.code y_D_payings b_D_payings 3 (Option.some .int) ∈ lw_use := g_use (List.mem_of_getElem? (i := 401) (by decide +kernel)) rfl
theorem d_D_payings_0 : decode b_D_payings 0 = .ok (.iconst 0, 1) := by decide +kernel
theorem d_D_payings_1 : decode b_D_payings 1 = .ok (.istore_n 1, 1) := by decide +kernel
theorem d_D_payings_2 : decode b_D_payings 2 = .ok (.iconst 0, 1) := by decide +kernel
theorem d_D_payings_3 : decode b_D_payings 3 = .ok (.istore_n 2, 1) := by decide +kernel
theorem d_D_payings_4 : decode b_D_payings 4 = .ok (.iload_n 2, 1) := by decide +kernel
theorem d_D_payings_5 : decode b_D_payings 5 = .ok (.aload_n 0, 1) := by decide +kernel
theorem d_D_payings_6 : decode b_D_payings 6 = .ok (.getfield 69, 3) := by decide +kernel
theorem d_D_payings_9 : decode b_D_payings 9 = .ok (.if_icmp .ge 24, 3) := by decide +kernel
theorem d_D_payings_12 : decode b_D_payings 12 = .ok (.aload_n 0, 1) := by decide +kernel
theorem d_D_payings_13 : decode b_D_payings 13 = .ok (.iload_n 2, 1) := by decide +kernel
theorem d_D_payings_14 : decode b_D_payings 14 = .ok (.invokevirtual 181, 3) := by decide +kernel
theorem d_D_payings_17 : decode b_D_payings 17 = .ok (.ifCond .eq 10, 3) := by decide +kernel
theorem d_D_payings_20 : decode b_D_payings 20 = .ok (.iload_n 1, 1) := by decide +kernel
theorem d_D_payings_21 : decode b_D_payings 21 = .ok (.iload_n 2, 1) := by decide +kernel
theorem d_D_payings_22 : decode b_D_payings 22 = .ok (.invokestatic 98, 3) := by decide +kernel
theorem d_D_payings_25 : decode b_D_payings 25 = .ok (.ior, 1) := by decide +kernel
theorem d_D_payings_26 : decode b_D_payings 26 = .ok (.istore_n 1, 1) := by decide +kernel
theorem d_D_payings_27 : decode b_D_payings 27 = .ok (.iinc 2 1, 3) := by decide +kernel
theorem d_D_payings_30 : decode b_D_payings 30 = .ok (.goto (-26), 3) := by decide +kernel
theorem d_D_payings_33 : decode b_D_payings 33 = .ok (.iload_n 1, 1) := by decide +kernel
theorem d_D_payings_34 : decode b_D_payings 34 = .ok (.invokestatic 184, 3) := by decide +kernel
theorem d_D_payings_37 : decode b_D_payings 37 = .ok (.aload_n 0, 1) := by decide +kernel
theorem d_D_payings_38 : decode b_D_payings 38 = .ok (.iload_n 1, 1) := by decide +kernel
theorem d_D_payings_39 : decode b_D_payings 39 = .ok (.invokevirtual 189, 3) := by decide +kernel
theorem d_D_payings_42 : decode b_D_payings 42 = .ok (.isub, 1) := by decide +kernel
theorem d_D_payings_43 : decode b_D_payings 43 = .ok (.ireturn, 1) := by decide +kernel
abbrev b_D_share : ByteArray := prog_1_method_26_code
def y_D_share : MethodName := ⟨R_D, "share", "(IIZ)I"⟩
theorem mc_D_share : Cond.code y_D_share b_D_share 8 (Option.some .int) ∈ lw_use := g_use (List.mem_of_getElem? (i := 410) (by decide +kernel)) rfl
theorem d_D_share_0 : decode b_D_share 0 = .ok (.aload_n 0, 1) := by decide +kernel
theorem d_D_share_1 : decode b_D_share 1 = .ok (.iload_n 1, 1) := by decide +kernel
theorem d_D_share_2 : decode b_D_share 2 = .ok (.invokevirtual 113, 3) := by decide +kernel
theorem d_D_share_5 : decode b_D_share 5 = .ok (.ifCond .ne 5, 3) := by decide +kernel
theorem d_D_share_8 : decode b_D_share 8 = .ok (.iconst (-1), 1) := by decide +kernel
theorem d_D_share_9 : decode b_D_share 9 = .ok (.ireturn, 1) := by decide +kernel
theorem d_D_share_10 : decode b_D_share 10 = .ok (.iload_n 2, 1) := by decide +kernel
theorem d_D_share_11 : decode b_D_share 11 = .ok (.invokestatic 134, 3) := by decide +kernel
theorem d_D_share_14 : decode b_D_share 14 = .ok (.ifCond .ne 6, 3) := by decide +kernel
theorem d_D_share_17 : decode b_D_share 17 = .ok (.bipush (-2), 2) := by decide +kernel
theorem d_D_share_19 : decode b_D_share 19 = .ok (.ireturn, 1) := by decide +kernel
theorem d_D_share_20 : decode b_D_share 20 = .ok (.aload_n 0, 1) := by decide +kernel
theorem d_D_share_21 : decode b_D_share 21 = .ok (.iload_n 2, 1) := by decide +kernel
theorem d_D_share_22 : decode b_D_share 22 = .ok (.invokevirtual 167, 3) := by decide +kernel
theorem d_D_share_25 : decode b_D_share 25 = .ok (.iconst 0, 1) := by decide +kernel
theorem d_D_share_26 : decode b_D_share 26 = .ok (.istore 4, 2) := by decide +kernel
theorem d_D_share_28 : decode b_D_share 28 = .ok (.iload 4, 2) := by decide +kernel
theorem d_D_share_30 : decode b_D_share 30 = .ok (.aload_n 0, 1) := by decide +kernel
theorem d_D_share_31 : decode b_D_share 31 = .ok (.invokevirtual 107, 3) := by decide +kernel
theorem d_D_share_34 : decode b_D_share 34 = .ok (.if_icmp .gt 31, 3) := by decide +kernel
theorem d_D_share_37 : decode b_D_share 37 = .ok (.aload_n 0, 1) := by decide +kernel
theorem d_D_share_38 : decode b_D_share 38 = .ok (.getfield 55, 3) := by decide +kernel
theorem d_D_share_41 : decode b_D_share 41 = .ok (.iload 4, 2) := by decide +kernel
theorem d_D_share_43 : decode b_D_share 43 = .ok (.aload_n 0, 1) := by decide +kernel
theorem d_D_share_44 : decode b_D_share 44 = .ok (.getfield 49, 3) := by decide +kernel
theorem d_D_share_47 : decode b_D_share 47 = .ok (.aload_n 0, 1) := by decide +kernel
theorem d_D_share_48 : decode b_D_share 48 = .ok (.aload_n 0, 1) := by decide +kernel
theorem d_D_share_49 : decode b_D_share 49 = .ok (.iload 4, 2) := by decide +kernel
theorem d_D_share_51 : decode b_D_share 51 = .ok (.invokevirtual 110, 3) := by decide +kernel
theorem d_D_share_54 : decode b_D_share 54 = .ok (.invokevirtual 170, 3) := by decide +kernel
theorem d_D_share_57 : decode b_D_share 57 = .ok (.iaload, 1) := by decide +kernel
theorem d_D_share_58 : decode b_D_share 58 = .ok (.iastore, 1) := by decide +kernel
theorem d_D_share_59 : decode b_D_share 59 = .ok (.iinc 4 1, 3) := by decide +kernel
theorem d_D_share_62 : decode b_D_share 62 = .ok (.goto (-34), 3) := by decide +kernel
theorem d_D_share_65 : decode b_D_share 65 = .ok (.iconst 0, 1) := by decide +kernel
theorem d_D_share_66 : decode b_D_share 66 = .ok (.istore 4, 2) := by decide +kernel
theorem d_D_share_68 : decode b_D_share 68 = .ok (.iconst 0, 1) := by decide +kernel
theorem d_D_share_69 : decode b_D_share 69 = .ok (.istore 5, 2) := by decide +kernel
theorem d_D_share_71 : decode b_D_share 71 = .ok (.iload 5, 2) := by decide +kernel
theorem d_D_share_73 : decode b_D_share 73 = .ok (.aload_n 0, 1) := by decide +kernel
theorem d_D_share_74 : decode b_D_share 74 = .ok (.invokevirtual 107, 3) := by decide +kernel
theorem d_D_share_77 : decode b_D_share 77 = .ok (.if_icmp .gt 75, 3) := by decide +kernel
theorem d_D_share_80 : decode b_D_share 80 = .ok (.iload 5, 2) := by decide +kernel
theorem d_D_share_82 : decode b_D_share 82 = .ok (.iload_n 1, 1) := by decide +kernel
theorem d_D_share_83 : decode b_D_share 83 = .ok (.invokestatic 150, 3) := by decide +kernel
theorem d_D_share_86 : decode b_D_share 86 = .ok (.ifCond .ne 60, 3) := by decide +kernel
theorem d_D_share_89 : decode b_D_share 89 = .ok (.iload 5, 2) := by decide +kernel
theorem d_D_share_91 : decode b_D_share 91 = .ok (.invokestatic 184, 3) := by decide +kernel
theorem d_D_share_94 : decode b_D_share 94 = .ok (.istore 6, 2) := by decide +kernel
theorem d_D_share_96 : decode b_D_share 96 = .ok (.getstatic 192, 3) := by decide +kernel
theorem d_D_share_99 : decode b_D_share 99 = .ok (.iload 6, 2) := by decide +kernel
theorem d_D_share_101 : decode b_D_share 101 = .ok (.iaload, 1) := by decide +kernel
theorem d_D_share_102 : decode b_D_share 102 = .ok (.getstatic 192, 3) := by decide +kernel
theorem d_D_share_105 : decode b_D_share 105 = .ok (.aload_n 0, 1) := by decide +kernel
theorem d_D_share_106 : decode b_D_share 106 = .ok (.getfield 69, 3) := by decide +kernel
theorem d_D_share_109 : decode b_D_share 109 = .ok (.iconst 1, 1) := by decide +kernel
theorem d_D_share_110 : decode b_D_share 110 = .ok (.isub, 1) := by decide +kernel
theorem d_D_share_111 : decode b_D_share 111 = .ok (.iload 6, 2) := by decide +kernel
theorem d_D_share_113 : decode b_D_share 113 = .ok (.isub, 1) := by decide +kernel
theorem d_D_share_114 : decode b_D_share 114 = .ok (.iaload, 1) := by decide +kernel
theorem d_D_share_115 : decode b_D_share 115 = .ok (.imul, 1) := by decide +kernel
theorem d_D_share_116 : decode b_D_share 116 = .ok (.istore 7, 2) := by decide +kernel
theorem d_D_share_118 : decode b_D_share 118 = .ok (.iload 4, 2) := by decide +kernel
theorem d_D_share_120 : decode b_D_share 120 = .ok (.iload 7, 2) := by decide +kernel
theorem d_D_share_122 : decode b_D_share 122 = .ok (.aload_n 0, 1) := by decide +kernel
theorem d_D_share_123 : decode b_D_share 123 = .ok (.getfield 55, 3) := by decide +kernel
theorem d_D_share_126 : decode b_D_share 126 = .ok (.iload 5, 2) := by decide +kernel
theorem d_D_share_128 : decode b_D_share 128 = .ok (.iaload, 1) := by decide +kernel
theorem d_D_share_129 : decode b_D_share 129 = .ok (.aload_n 0, 1) := by decide +kernel
theorem d_D_share_130 : decode b_D_share 130 = .ok (.getfield 55, 3) := by decide +kernel
theorem d_D_share_133 : decode b_D_share 133 = .ok (.iload 5, 2) := by decide +kernel
theorem d_D_share_135 : decode b_D_share 135 = .ok (.iload_n 1, 1) := by decide +kernel
theorem d_D_share_136 : decode b_D_share 136 = .ok (.invokestatic 98, 3) := by decide +kernel
theorem d_D_share_139 : decode b_D_share 139 = .ok (.ior, 1) := by decide +kernel
theorem d_D_share_140 : decode b_D_share 140 = .ok (.iaload, 1) := by decide +kernel
theorem d_D_share_141 : decode b_D_share 141 = .ok (.isub, 1) := by decide +kernel
theorem d_D_share_142 : decode b_D_share 142 = .ok (.imul, 1) := by decide +kernel
theorem d_D_share_143 : decode b_D_share 143 = .ok (.iadd, 1) := by decide +kernel
theorem d_D_share_144 : decode b_D_share 144 = .ok (.istore 4, 2) := by decide +kernel
theorem d_D_share_146 : decode b_D_share 146 = .ok (.iinc 5 1, 3) := by decide +kernel
theorem d_D_share_149 : decode b_D_share 149 = .ok (.goto (-78), 3) := by decide +kernel
theorem d_D_share_152 : decode b_D_share 152 = .ok (.iload 4, 2) := by decide +kernel
theorem d_D_share_154 : decode b_D_share 154 = .ok (.getstatic 192, 3) := by decide +kernel
theorem d_D_share_157 : decode b_D_share 157 = .ok (.aload_n 0, 1) := by decide +kernel
theorem d_D_share_158 : decode b_D_share 158 = .ok (.getfield 69, 3) := by decide +kernel
theorem d_D_share_161 : decode b_D_share 161 = .ok (.iaload, 1) := by decide +kernel
theorem d_D_share_162 : decode b_D_share 162 = .ok (.iload_n 3, 1) := by decide +kernel
theorem d_D_share_163 : decode b_D_share 163 = .ok (.invokestatic 195, 3) := by decide +kernel
theorem d_D_share_166 : decode b_D_share 166 = .ok (.ireturn, 1) := by decide +kernel
abbrev b_D_rests : ByteArray := prog_1_method_27_code
def y_D_rests : MethodName := ⟨R_D, "rests", "(IIIII)I"⟩
theorem mc_D_rests : Cond.code y_D_rests b_D_rests 10 (Option.some .int) ∈ lw_use := g_use (List.mem_of_getElem? (i := 422) (by decide +kernel)) rfl
theorem d_D_rests_0 : decode b_D_rests 0 = .ok (.aload_n 0, 1) := by decide +kernel
theorem d_D_rests_1 : decode b_D_rests 1 = .ok (.iload_n 1, 1) := by decide +kernel
theorem d_D_rests_2 : decode b_D_rests 2 = .ok (.invokevirtual 113, 3) := by decide +kernel
theorem d_D_rests_5 : decode b_D_rests 5 = .ok (.ifCond .eq 19, 3) := by decide +kernel
theorem d_D_rests_8 : decode b_D_rests 8 = .ok (.aload_n 0, 1) := by decide +kernel
theorem d_D_rests_9 : decode b_D_rests 9 = .ok (.iload_n 2, 1) := by decide +kernel
theorem d_D_rests_10 : decode b_D_rests 10 = .ok (.invokevirtual 113, 3) := by decide +kernel
theorem d_D_rests_13 : decode b_D_rests 13 = .ok (.ifCond .eq 11, 3) := by decide +kernel
theorem d_D_rests_16 : decode b_D_rests 16 = .ok (.aload_n 0, 1) := by decide +kernel
theorem d_D_rests_17 : decode b_D_rests 17 = .ok (.iload_n 3, 1) := by decide +kernel
theorem d_D_rests_18 : decode b_D_rests 18 = .ok (.invokevirtual 113, 3) := by decide +kernel
theorem d_D_rests_21 : decode b_D_rests 21 = .ok (.ifCond .ne 5, 3) := by decide +kernel
theorem d_D_rests_24 : decode b_D_rests 24 = .ok (.iconst (-1), 1) := by decide +kernel
theorem d_D_rests_25 : decode b_D_rests 25 = .ok (.ireturn, 1) := by decide +kernel
theorem d_D_rests_26 : decode b_D_rests 26 = .ok (.iload_n 1, 1) := by decide +kernel
theorem d_D_rests_27 : decode b_D_rests 27 = .ok (.iload_n 2, 1) := by decide +kernel
theorem d_D_rests_28 : decode b_D_rests 28 = .ok (.if_icmp .eq 22, 3) := by decide +kernel
theorem d_D_rests_31 : decode b_D_rests 31 = .ok (.iload 4, 2) := by decide +kernel
theorem d_D_rests_33 : decode b_D_rests 33 = .ok (.invokestatic 134, 3) := by decide +kernel
theorem d_D_rests_36 : decode b_D_rests 36 = .ok (.ifCond .eq 14, 3) := by decide +kernel
theorem d_D_rests_39 : decode b_D_rests 39 = .ok (.iload 5, 2) := by decide +kernel
theorem d_D_rests_41 : decode b_D_rests 41 = .ok (.ifCond .lt 9, 3) := by decide +kernel
theorem d_D_rests_44 : decode b_D_rests 44 = .ok (.iload 5, 2) := by decide +kernel
theorem d_D_rests_46 : decode b_D_rests 46 = .ok (.iconst 1, 1) := by decide +kernel
theorem d_D_rests_47 : decode b_D_rests 47 = .ok (.if_icmp .le 6, 3) := by decide +kernel
theorem d_D_rests_50 : decode b_D_rests 50 = .ok (.bipush (-2), 2) := by decide +kernel
theorem d_D_rests_52 : decode b_D_rests 52 = .ok (.ireturn, 1) := by decide +kernel
theorem d_D_rests_53 : decode b_D_rests 53 = .ok (.aload_n 0, 1) := by decide +kernel
theorem d_D_rests_54 : decode b_D_rests 54 = .ok (.iload_n 3, 1) := by decide +kernel
theorem d_D_rests_55 : decode b_D_rests 55 = .ok (.iload 4, 2) := by decide +kernel
theorem d_D_rests_57 : decode b_D_rests 57 = .ok (.invokevirtual 199, 3) := by decide +kernel
theorem d_D_rests_60 : decode b_D_rests 60 = .ok (.iconst 0, 1) := by decide +kernel
theorem d_D_rests_61 : decode b_D_rests 61 = .ok (.istore 6, 2) := by decide +kernel
theorem d_D_rests_63 : decode b_D_rests 63 = .ok (.bipush (-9), 2) := by decide +kernel
theorem d_D_rests_65 : decode b_D_rests 65 = .ok (.istore 7, 2) := by decide +kernel
theorem d_D_rests_67 : decode b_D_rests 67 = .ok (.iconst 0, 1) := by decide +kernel
theorem d_D_rests_68 : decode b_D_rests 68 = .ok (.istore 8, 2) := by decide +kernel
theorem d_D_rests_70 : decode b_D_rests 70 = .ok (.iload 8, 2) := by decide +kernel
theorem d_D_rests_72 : decode b_D_rests 72 = .ok (.iconst 3, 1) := by decide +kernel
theorem d_D_rests_73 : decode b_D_rests 73 = .ok (.if_icmp .gt 73, 3) := by decide +kernel
theorem d_D_rests_76 : decode b_D_rests 76 = .ok (.iconst 0, 1) := by decide +kernel
theorem d_D_rests_77 : decode b_D_rests 77 = .ok (.istore 9, 2) := by decide +kernel
theorem d_D_rests_79 : decode b_D_rests 79 = .ok (.iload 9, 2) := by decide +kernel
theorem d_D_rests_81 : decode b_D_rests 81 = .ok (.iconst 3, 1) := by decide +kernel
theorem d_D_rests_82 : decode b_D_rests 82 = .ok (.if_icmp .gt 58, 3) := by decide +kernel
theorem d_D_rests_85 : decode b_D_rests 85 = .ok (.aload_n 0, 1) := by decide +kernel
theorem d_D_rests_86 : decode b_D_rests 86 = .ok (.iload_n 1, 1) := by decide +kernel
theorem d_D_rests_87 : decode b_D_rests 87 = .ok (.iload 8, 2) := by decide +kernel
theorem d_D_rests_89 : decode b_D_rests 89 = .ok (.iload 9, 2) := by decide +kernel
theorem d_D_rests_91 : decode b_D_rests 91 = .ok (.invokevirtual 203, 3) := by decide +kernel
theorem d_D_rests_94 : decode b_D_rests 94 = .ok (.ifCond .eq 40, 3) := by decide +kernel
theorem d_D_rests_97 : decode b_D_rests 97 = .ok (.aload_n 0, 1) := by decide +kernel
theorem d_D_rests_98 : decode b_D_rests 98 = .ok (.iload_n 2, 1) := by decide +kernel
theorem d_D_rests_99 : decode b_D_rests 99 = .ok (.iload 9, 2) := by decide +kernel
theorem d_D_rests_101 : decode b_D_rests 101 = .ok (.iload 8, 2) := by decide +kernel
theorem d_D_rests_103 : decode b_D_rests 103 = .ok (.invokevirtual 203, 3) := by decide +kernel
theorem d_D_rests_106 : decode b_D_rests 106 = .ok (.ifCond .eq 28, 3) := by decide +kernel
theorem d_D_rests_109 : decode b_D_rests 109 = .ok (.iinc 6 1, 3) := by decide +kernel
theorem d_D_rests_112 : decode b_D_rests 112 = .ok (.iload 7, 2) := by decide +kernel
theorem d_D_rests_114 : decode b_D_rests 114 = .ok (.bipush (-9), 2) := by decide +kernel
theorem d_D_rests_116 : decode b_D_rests 116 = .ok (.if_icmp .ne 14, 3) := by decide +kernel
theorem d_D_rests_119 : decode b_D_rests 119 = .ok (.bipush 10, 2) := by decide +kernel
theorem d_D_rests_121 : decode b_D_rests 121 = .ok (.iload 8, 2) := by decide +kernel
theorem d_D_rests_123 : decode b_D_rests 123 = .ok (.imul, 1) := by decide +kernel
theorem d_D_rests_124 : decode b_D_rests 124 = .ok (.iload 9, 2) := by decide +kernel
theorem d_D_rests_126 : decode b_D_rests 126 = .ok (.iadd, 1) := by decide +kernel
theorem d_D_rests_127 : decode b_D_rests 127 = .ok (.goto 5, 3) := by decide +kernel
theorem d_D_rests_130 : decode b_D_rests 130 = .ok (.iload 7, 2) := by decide +kernel
theorem d_D_rests_132 : decode b_D_rests 132 = .ok (.istore 7, 2) := by decide +kernel
theorem d_D_rests_134 : decode b_D_rests 134 = .ok (.iinc 9 1, 3) := by decide +kernel
theorem d_D_rests_137 : decode b_D_rests 137 = .ok (.goto (-58), 3) := by decide +kernel
theorem d_D_rests_140 : decode b_D_rests 140 = .ok (.iinc 8 1, 3) := by decide +kernel
theorem d_D_rests_143 : decode b_D_rests 143 = .ok (.goto (-73), 3) := by decide +kernel
theorem d_D_rests_146 : decode b_D_rests 146 = .ok (.iload 5, 2) := by decide +kernel
theorem d_D_rests_148 : decode b_D_rests 148 = .ok (.ifCond .ne 8, 3) := by decide +kernel
theorem d_D_rests_151 : decode b_D_rests 151 = .ok (.iload 6, 2) := by decide +kernel
theorem d_D_rests_153 : decode b_D_rests 153 = .ok (.goto 5, 3) := by decide +kernel
theorem d_D_rests_156 : decode b_D_rests 156 = .ok (.iload 7, 2) := by decide +kernel
theorem d_D_rests_158 : decode b_D_rests 158 = .ok (.ireturn, 1) := by decide +kernel
abbrev b_D_threes : ByteArray := prog_1_method_28_code
def y_D_threes : MethodName := ⟨R_D, "threes", "(IIIIZ)I"⟩
theorem mc_D_threes : Cond.code y_D_threes b_D_threes 8 (Option.some .int) ∈ lw_use := g_use (List.mem_of_getElem? (i := 438) (by decide +kernel)) rfl
theorem d_D_threes_0 : decode b_D_threes 0 = .ok (.aload_n 0, 1) := by decide +kernel
theorem d_D_threes_1 : decode b_D_threes 1 = .ok (.iload_n 1, 1) := by decide +kernel
theorem d_D_threes_2 : decode b_D_threes 2 = .ok (.invokevirtual 113, 3) := by decide +kernel
theorem d_D_threes_5 : decode b_D_threes 5 = .ok (.ifCond .ne 5, 3) := by decide +kernel
theorem d_D_threes_8 : decode b_D_threes 8 = .ok (.iconst (-1), 1) := by decide +kernel
theorem d_D_threes_9 : decode b_D_threes 9 = .ok (.ireturn, 1) := by decide +kernel
theorem d_D_threes_10 : decode b_D_threes 10 = .ok (.iload_n 2, 1) := by decide +kernel
theorem d_D_threes_11 : decode b_D_threes 11 = .ok (.invokestatic 134, 3) := by decide +kernel
theorem d_D_threes_14 : decode b_D_threes 14 = .ok (.ifCond .eq 22, 3) := by decide +kernel
theorem d_D_threes_17 : decode b_D_threes 17 = .ok (.iload_n 3, 1) := by decide +kernel
theorem d_D_threes_18 : decode b_D_threes 18 = .ok (.invokestatic 134, 3) := by decide +kernel
theorem d_D_threes_21 : decode b_D_threes 21 = .ok (.ifCond .eq 15, 3) := by decide +kernel
theorem d_D_threes_24 : decode b_D_threes 24 = .ok (.iload 4, 2) := by decide +kernel
theorem d_D_threes_26 : decode b_D_threes 26 = .ok (.ifCond .lt 10, 3) := by decide +kernel
theorem d_D_threes_29 : decode b_D_threes 29 = .ok (.iload 4, 2) := by decide +kernel
theorem d_D_threes_31 : decode b_D_threes 31 = .ok (.bipush 10, 2) := by decide +kernel
theorem d_D_threes_33 : decode b_D_threes 33 = .ok (.if_icmp .le 6, 3) := by decide +kernel
theorem d_D_threes_36 : decode b_D_threes 36 = .ok (.bipush (-2), 2) := by decide +kernel
theorem d_D_threes_38 : decode b_D_threes 38 = .ok (.ireturn, 1) := by decide +kernel
theorem d_D_threes_39 : decode b_D_threes 39 = .ok (.iconst 0, 1) := by decide +kernel
theorem d_D_threes_40 : decode b_D_threes 40 = .ok (.istore 6, 2) := by decide +kernel
theorem d_D_threes_42 : decode b_D_threes 42 = .ok (.iconst 0, 1) := by decide +kernel
theorem d_D_threes_43 : decode b_D_threes 43 = .ok (.istore 7, 2) := by decide +kernel
theorem d_D_threes_45 : decode b_D_threes 45 = .ok (.iload 7, 2) := by decide +kernel
theorem d_D_threes_47 : decode b_D_threes 47 = .ok (.bipush 8, 2) := by decide +kernel
theorem d_D_threes_49 : decode b_D_threes 49 = .ok (.if_icmp .ge 33, 3) := by decide +kernel
theorem d_D_threes_52 : decode b_D_threes 52 = .ok (.aload_n 0, 1) := by decide +kernel
theorem d_D_threes_53 : decode b_D_threes 53 = .ok (.iload_n 1, 1) := by decide +kernel
theorem d_D_threes_54 : decode b_D_threes 54 = .ok (.iload_n 2, 1) := by decide +kernel
theorem d_D_threes_55 : decode b_D_threes 55 = .ok (.iload_n 3, 1) := by decide +kernel
theorem d_D_threes_56 : decode b_D_threes 56 = .ok (.iload 7, 2) := by decide +kernel
theorem d_D_threes_58 : decode b_D_threes 58 = .ok (.invokevirtual 207, 3) := by decide +kernel
theorem d_D_threes_61 : decode b_D_threes 61 = .ok (.ifCond .eq 15, 3) := by decide +kernel
theorem d_D_threes_64 : decode b_D_threes 64 = .ok (.iload 6, 2) := by decide +kernel
theorem d_D_threes_66 : decode b_D_threes 66 = .ok (.iload 7, 2) := by decide +kernel
theorem d_D_threes_68 : decode b_D_threes 68 = .ok (.iload 4, 2) := by decide +kernel
theorem d_D_threes_70 : decode b_D_threes 70 = .ok (.invokestatic 211, 3) := by decide +kernel
theorem d_D_threes_73 : decode b_D_threes 73 = .ok (.iadd, 1) := by decide +kernel
theorem d_D_threes_74 : decode b_D_threes 74 = .ok (.istore 6, 2) := by decide +kernel
theorem d_D_threes_76 : decode b_D_threes 76 = .ok (.iinc 7 1, 3) := by decide +kernel
theorem d_D_threes_79 : decode b_D_threes 79 = .ok (.goto (-34), 3) := by decide +kernel
theorem d_D_threes_82 : decode b_D_threes 82 = .ok (.iload 6, 2) := by decide +kernel
theorem d_D_threes_84 : decode b_D_threes 84 = .ok (.sipush 1000, 3) := by decide +kernel
theorem d_D_threes_87 : decode b_D_threes 87 = .ok (.iload 5, 2) := by decide +kernel
theorem d_D_threes_89 : decode b_D_threes 89 = .ok (.invokestatic 195, 3) := by decide +kernel
theorem d_D_threes_92 : decode b_D_threes 92 = .ok (.ireturn, 1) := by decide +kernel
abbrev b_D_seed : ByteArray := prog_1_method_29_code
def y_D_seed : MethodName := ⟨R_D, "seed", "(J)J"⟩
theorem mc_D_seed : Cond.code y_D_seed b_D_seed 5 (Option.some .long) ∈ lw_use := g_use (List.mem_of_getElem? (i := 449) (by decide +kernel)) rfl
theorem d_D_seed_0 : decode b_D_seed 0 = .ok (.aload_n 0, 1) := by decide +kernel
theorem d_D_seed_1 : decode b_D_seed 1 = .ok (.getfield 214, 3) := by decide +kernel
theorem d_D_seed_4 : decode b_D_seed 4 = .ok (.lstore_n 3, 1) := by decide +kernel
theorem d_D_seed_5 : decode b_D_seed 5 = .ok (.aload_n 0, 1) := by decide +kernel
theorem d_D_seed_6 : decode b_D_seed 6 = .ok (.lload_n 1, 1) := by decide +kernel
theorem d_D_seed_7 : decode b_D_seed 7 = .ok (.putfield 214, 3) := by decide +kernel
theorem d_D_seed_10 : decode b_D_seed 10 = .ok (.lload_n 3, 1) := by decide +kernel
theorem d_D_seed_11 : decode b_D_seed 11 = .ok (.lreturn, 1) := by decide +kernel
abbrev b_D_winters : ByteArray := prog_1_method_30_code
def y_D_winters : MethodName := ⟨R_D, "winters", "(I)I"⟩
theorem mc_D_winters : Cond.code y_D_winters b_D_winters 5 (Option.some .int) ∈ lw_use := g_use (List.mem_of_getElem? (i := 453) (by decide +kernel)) rfl
theorem d_D_winters_0 : decode b_D_winters 0 = .ok (.iload_n 1, 1) := by decide +kernel
theorem d_D_winters_1 : decode b_D_winters 1 = .ok (.iconst 1, 1) := by decide +kernel
theorem d_D_winters_2 : decode b_D_winters 2 = .ok (.if_icmp .lt 9, 3) := by decide +kernel
theorem d_D_winters_5 : decode b_D_winters 5 = .ok (.iload_n 1, 1) := by decide +kernel
theorem d_D_winters_6 : decode b_D_winters 6 = .ok (.bipush 20, 2) := by decide +kernel
theorem d_D_winters_8 : decode b_D_winters 8 = .ok (.if_icmp .le 6, 3) := by decide +kernel
theorem d_D_winters_11 : decode b_D_winters 11 = .ok (.bipush (-2), 2) := by decide +kernel
theorem d_D_winters_13 : decode b_D_winters 13 = .ok (.ireturn, 1) := by decide +kernel
theorem d_D_winters_14 : decode b_D_winters 14 = .ok (.iconst 0, 1) := by decide +kernel
theorem d_D_winters_15 : decode b_D_winters 15 = .ok (.istore_n 2, 1) := by decide +kernel
theorem d_D_winters_16 : decode b_D_winters 16 = .ok (.aload_n 0, 1) := by decide +kernel
theorem d_D_winters_17 : decode b_D_winters 17 = .ok (.getfield 29, 3) := by decide +kernel
theorem d_D_winters_20 : decode b_D_winters 20 = .ok (.getfield 117, 3) := by decide +kernel
theorem d_D_winters_23 : decode b_D_winters 23 = .ok (.aload_n 0, 1) := by decide +kernel
theorem d_D_winters_24 : decode b_D_winters 24 = .ok (.getfield 40, 3) := by decide +kernel
theorem d_D_winters_27 : decode b_D_winters 27 = .ok (.invokestatic 177, 3) := by decide +kernel
theorem d_D_winters_30 : decode b_D_winters 30 = .ok (.iconst 0, 1) := by decide +kernel
theorem d_D_winters_31 : decode b_D_winters 31 = .ok (.istore_n 3, 1) := by decide +kernel
theorem d_D_winters_32 : decode b_D_winters 32 = .ok (.iload_n 3, 1) := by decide +kernel
theorem d_D_winters_33 : decode b_D_winters 33 = .ok (.iload_n 1, 1) := by decide +kernel
theorem d_D_winters_34 : decode b_D_winters 34 = .ok (.if_icmp .ge 60, 3) := by decide +kernel
theorem d_D_winters_37 : decode b_D_winters 37 = .ok (.aload_n 0, 1) := by decide +kernel
theorem d_D_winters_38 : decode b_D_winters 38 = .ok (.aload_n 0, 1) := by decide +kernel
theorem d_D_winters_39 : decode b_D_winters 39 = .ok (.getfield 214, 3) := by decide +kernel
theorem d_D_winters_42 : decode b_D_winters 42 = .ok (.ldc2_w 218, 3) := by decide +kernel
theorem d_D_winters_45 : decode b_D_winters 45 = .ok (.lmul, 1) := by decide +kernel
theorem d_D_winters_46 : decode b_D_winters 46 = .ok (.ldc2_w 220, 3) := by decide +kernel
theorem d_D_winters_49 : decode b_D_winters 49 = .ok (.ladd, 1) := by decide +kernel
theorem d_D_winters_50 : decode b_D_winters 50 = .ok (.putfield 214, 3) := by decide +kernel
theorem d_D_winters_53 : decode b_D_winters 53 = .ok (.aload_n 0, 1) := by decide +kernel
theorem d_D_winters_54 : decode b_D_winters 54 = .ok (.getfield 214, 3) := by decide +kernel
theorem d_D_winters_57 : decode b_D_winters 57 = .ok (.bipush 33, 2) := by decide +kernel
theorem d_D_winters_59 : decode b_D_winters 59 = .ok (.lushr, 1) := by decide +kernel
theorem d_D_winters_60 : decode b_D_winters 60 = .ok (.ldc2_w 222, 3) := by decide +kernel
theorem d_D_winters_63 : decode b_D_winters 63 = .ok (.lrem, 1) := by decide +kernel
theorem d_D_winters_64 : decode b_D_winters 64 = .ok (.l2i, 1) := by decide +kernel
theorem d_D_winters_65 : decode b_D_winters 65 = .ok (.istore 4, 2) := by decide +kernel
theorem d_D_winters_67 : decode b_D_winters 67 = .ok (.iload_n 2, 1) := by decide +kernel
theorem d_D_winters_68 : decode b_D_winters 68 = .ok (.aload_n 0, 1) := by decide +kernel
theorem d_D_winters_69 : decode b_D_winters 69 = .ok (.aload_n 0, 1) := by decide +kernel
theorem d_D_winters_70 : decode b_D_winters 70 = .ok (.aload_n 0, 1) := by decide +kernel
theorem d_D_winters_71 : decode b_D_winters 71 = .ok (.aload_n 0, 1) := by decide +kernel
theorem d_D_winters_72 : decode b_D_winters 72 = .ok (.getfield 40, 3) := by decide +kernel
theorem d_D_winters_75 : decode b_D_winters 75 = .ok (.iload 4, 2) := by decide +kernel
theorem d_D_winters_77 : decode b_D_winters 77 = .ok (.invokevirtual 140, 3) := by decide +kernel
theorem d_D_winters_80 : decode b_D_winters 80 = .ok (.invokevirtual 144, 3) := by decide +kernel
theorem d_D_winters_83 : decode b_D_winters 83 = .ok (.invokevirtual 147, 3) := by decide +kernel
theorem d_D_winters_86 : decode b_D_winters 86 = .ok (.iadd, 1) := by decide +kernel
theorem d_D_winters_87 : decode b_D_winters 87 = .ok (.istore_n 2, 1) := by decide +kernel
theorem d_D_winters_88 : decode b_D_winters 88 = .ok (.iinc 3 1, 3) := by decide +kernel
theorem d_D_winters_91 : decode b_D_winters 91 = .ok (.goto (-59), 3) := by decide +kernel
theorem d_D_winters_94 : decode b_D_winters 94 = .ok (.iload_n 2, 1) := by decide +kernel
theorem d_D_winters_95 : decode b_D_winters 95 = .ok (.ireturn, 1) := by decide +kernel
abbrev b_D_keep : ByteArray := prog_1_method_31_code
def y_D_keep : MethodName := ⟨R_D, "keep", "(I)I"⟩
theorem mc_D_keep : Cond.code y_D_keep b_D_keep 2 (Option.some .int) ∈ lw_use := g_use (List.mem_of_getElem? (i := 460) (by decide +kernel)) rfl
theorem d_D_keep_0 : decode b_D_keep 0 = .ok (.iload_n 1, 1) := by decide +kernel
theorem d_D_keep_1 : decode b_D_keep 1 = .ok (.ifCond .lt 8, 3) := by decide +kernel
theorem d_D_keep_4 : decode b_D_keep 4 = .ok (.iload_n 1, 1) := by decide +kernel
theorem d_D_keep_5 : decode b_D_keep 5 = .ok (.iconst 2, 1) := by decide +kernel
theorem d_D_keep_6 : decode b_D_keep 6 = .ok (.if_icmp .lt 5, 3) := by decide +kernel
theorem d_D_keep_9 : decode b_D_keep 9 = .ok (.iconst (-1), 1) := by decide +kernel
theorem d_D_keep_10 : decode b_D_keep 10 = .ok (.ireturn, 1) := by decide +kernel
theorem d_D_keep_11 : decode b_D_keep 11 = .ok (.aload_n 0, 1) := by decide +kernel
theorem d_D_keep_12 : decode b_D_keep 12 = .ok (.getfield 37, 3) := by decide +kernel
theorem d_D_keep_15 : decode b_D_keep 15 = .ok (.iload_n 1, 1) := by decide +kernel
theorem d_D_keep_16 : decode b_D_keep 16 = .ok (.aaload, 1) := by decide +kernel
theorem d_D_keep_17 : decode b_D_keep 17 = .ok (.aload_n 0, 1) := by decide +kernel
theorem d_D_keep_18 : decode b_D_keep 18 = .ok (.getfield 29, 3) := by decide +kernel
theorem d_D_keep_21 : decode b_D_keep 21 = .ok (.invokevirtual 157, 3) := by decide +kernel
theorem d_D_keep_24 : decode b_D_keep 24 = .ok (.aload_n 0, 1) := by decide +kernel
theorem d_D_keep_25 : decode b_D_keep 25 = .ok (.dup, 1) := by decide +kernel
theorem d_D_keep_26 : decode b_D_keep 26 = .ok (.getfield 75, 3) := by decide +kernel
theorem d_D_keep_29 : decode b_D_keep 29 = .ok (.iload_n 1, 1) := by decide +kernel
theorem d_D_keep_30 : decode b_D_keep 30 = .ok (.invokestatic 98, 3) := by decide +kernel
theorem d_D_keep_33 : decode b_D_keep 33 = .ok (.ior, 1) := by decide +kernel
theorem d_D_keep_34 : decode b_D_keep 34 = .ok (.putfield 75, 3) := by decide +kernel
theorem d_D_keep_37 : decode b_D_keep 37 = .ok (.aload_n 0, 1) := by decide +kernel
theorem d_D_keep_38 : decode b_D_keep 38 = .ok (.getfield 29, 3) := by decide +kernel
theorem d_D_keep_41 : decode b_D_keep 41 = .ok (.getfield 104, 3) := by decide +kernel
theorem d_D_keep_44 : decode b_D_keep 44 = .ok (.ireturn, 1) := by decide +kernel
abbrev b_D_again : ByteArray := prog_1_method_32_code
def y_D_again : MethodName := ⟨R_D, "again", "(I)I"⟩
theorem mc_D_again : Cond.code y_D_again b_D_again 2 (Option.some .int) ∈ lw_use := g_use (List.mem_of_getElem? (i := 464) (by decide +kernel)) rfl
theorem d_D_again_0 : decode b_D_again 0 = .ok (.iload_n 1, 1) := by decide +kernel
theorem d_D_again_1 : decode b_D_again 1 = .ok (.ifCond .lt 8, 3) := by decide +kernel
theorem d_D_again_4 : decode b_D_again 4 = .ok (.iload_n 1, 1) := by decide +kernel
theorem d_D_again_5 : decode b_D_again 5 = .ok (.iconst 2, 1) := by decide +kernel
theorem d_D_again_6 : decode b_D_again 6 = .ok (.if_icmp .lt 5, 3) := by decide +kernel
theorem d_D_again_9 : decode b_D_again 9 = .ok (.iconst (-1), 1) := by decide +kernel
theorem d_D_again_10 : decode b_D_again 10 = .ok (.ireturn, 1) := by decide +kernel
theorem d_D_again_11 : decode b_D_again 11 = .ok (.aload_n 0, 1) := by decide +kernel
theorem d_D_again_12 : decode b_D_again 12 = .ok (.getfield 75, 3) := by decide +kernel
theorem d_D_again_15 : decode b_D_again 15 = .ok (.iload_n 1, 1) := by decide +kernel
theorem d_D_again_16 : decode b_D_again 16 = .ok (.invokestatic 150, 3) := by decide +kernel
theorem d_D_again_19 : decode b_D_again 19 = .ok (.ifCond .ne 6, 3) := by decide +kernel
theorem d_D_again_22 : decode b_D_again 22 = .ok (.bipush (-3), 2) := by decide +kernel
theorem d_D_again_24 : decode b_D_again 24 = .ok (.ireturn, 1) := by decide +kernel
theorem d_D_again_25 : decode b_D_again 25 = .ok (.aload_n 0, 1) := by decide +kernel
theorem d_D_again_26 : decode b_D_again 26 = .ok (.getfield 29, 3) := by decide +kernel
theorem d_D_again_29 : decode b_D_again 29 = .ok (.aload_n 0, 1) := by decide +kernel
theorem d_D_again_30 : decode b_D_again 30 = .ok (.getfield 37, 3) := by decide +kernel
theorem d_D_again_33 : decode b_D_again 33 = .ok (.iload_n 1, 1) := by decide +kernel
theorem d_D_again_34 : decode b_D_again 34 = .ok (.aaload, 1) := by decide +kernel
theorem d_D_again_35 : decode b_D_again 35 = .ok (.invokevirtual 157, 3) := by decide +kernel
theorem d_D_again_38 : decode b_D_again 38 = .ok (.aload_n 0, 1) := by decide +kernel
theorem d_D_again_39 : decode b_D_again 39 = .ok (.iconst 0, 1) := by decide +kernel
theorem d_D_again_40 : decode b_D_again 40 = .ok (.putfield 72, 3) := by decide +kernel
theorem d_D_again_43 : decode b_D_again 43 = .ok (.aload_n 0, 1) := by decide +kernel
theorem d_D_again_44 : decode b_D_again 44 = .ok (.getfield 29, 3) := by decide +kernel
theorem d_D_again_47 : decode b_D_again 47 = .ok (.getfield 104, 3) := by decide +kernel
theorem d_D_again_50 : decode b_D_again 50 = .ok (.ireturn, 1) := by decide +kernel
abbrev b_D_isFarm : ByteArray := prog_1_method_33_code
def y_D_isFarm : MethodName := ⟨R_D, "isFarm", "(I)Z"⟩
theorem mc_D_isFarm : Cond.code y_D_isFarm b_D_isFarm 2 (Option.some .boolean) ∈ lw_use := g_use (List.mem_of_getElem? (i := 257) (by decide +kernel)) rfl
theorem d_D_isFarm_0 : decode b_D_isFarm 0 = .ok (.iload_n 1, 1) := by decide +kernel
theorem d_D_isFarm_1 : decode b_D_isFarm 1 = .ok (.ifCond .lt 15, 3) := by decide +kernel
theorem d_D_isFarm_4 : decode b_D_isFarm 4 = .ok (.iload_n 1, 1) := by decide +kernel
theorem d_D_isFarm_5 : decode b_D_isFarm 5 = .ok (.aload_n 0, 1) := by decide +kernel
theorem d_D_isFarm_6 : decode b_D_isFarm 6 = .ok (.getfield 69, 3) := by decide +kernel
theorem d_D_isFarm_9 : decode b_D_isFarm 9 = .ok (.if_icmp .ge 7, 3) := by decide +kernel
theorem d_D_isFarm_12 : decode b_D_isFarm 12 = .ok (.iconst 1, 1) := by decide +kernel
theorem d_D_isFarm_13 : decode b_D_isFarm 13 = .ok (.goto 4, 3) := by decide +kernel
theorem d_D_isFarm_16 : decode b_D_isFarm 16 = .ok (.iconst 0, 1) := by decide +kernel
theorem d_D_isFarm_17 : decode b_D_isFarm 17 = .ok (.ireturn, 1) := by decide +kernel
abbrev b_D_isStorm : ByteArray := prog_1_method_34_code
def y_D_isStorm : MethodName := ⟨R_D, "isStorm", "(I)Z"⟩
theorem mc_D_isStorm : Cond.code y_D_isStorm b_D_isStorm 1 (Option.some .boolean) ∈ lw_use := g_use (List.mem_of_getElem? (i := 272) (by decide +kernel)) rfl
theorem d_D_isStorm_0 : decode b_D_isStorm 0 = .ok (.iload_n 0, 1) := by decide +kernel
theorem d_D_isStorm_1 : decode b_D_isStorm 1 = .ok (.ifCond .lt 13, 3) := by decide +kernel
theorem d_D_isStorm_4 : decode b_D_isStorm 4 = .ok (.iload_n 0, 1) := by decide +kernel
theorem d_D_isStorm_5 : decode b_D_isStorm 5 = .ok (.bipush 20, 2) := by decide +kernel
theorem d_D_isStorm_7 : decode b_D_isStorm 7 = .ok (.if_icmp .gt 7, 3) := by decide +kernel
theorem d_D_isStorm_10 : decode b_D_isStorm 10 = .ok (.iconst 1, 1) := by decide +kernel
theorem d_D_isStorm_11 : decode b_D_isStorm 11 = .ok (.goto 4, 3) := by decide +kernel
theorem d_D_isStorm_14 : decode b_D_isStorm 14 = .ok (.iconst 0, 1) := by decide +kernel
theorem d_D_isStorm_15 : decode b_D_isStorm 15 = .ok (.ireturn, 1) := by decide +kernel
abbrev b_D_bit : ByteArray := prog_1_method_35_code
def y_D_bit : MethodName := ⟨R_D, "bit", "(I)I"⟩
theorem mc_D_bit : Cond.code y_D_bit b_D_bit 1 (Option.some .int) ∈ lw_use := g_use (List.mem_of_getElem? (i := 217) (by decide +kernel)) rfl
theorem d_D_bit_0 : decode b_D_bit 0 = .ok (.iconst 1, 1) := by decide +kernel
theorem d_D_bit_1 : decode b_D_bit 1 = .ok (.iload_n 0, 1) := by decide +kernel
theorem d_D_bit_2 : decode b_D_bit 2 = .ok (.ishl, 1) := by decide +kernel
theorem d_D_bit_3 : decode b_D_bit 3 = .ok (.ireturn, 1) := by decide +kernel
abbrev b_D_has : ByteArray := prog_1_method_36_code
def y_D_has : MethodName := ⟨R_D, "has", "(II)Z"⟩
theorem mc_D_has : Cond.code y_D_has b_D_has 2 (Option.some .boolean) ∈ lw_use := g_use (List.mem_of_getElem? (i := 214) (by decide +kernel)) rfl
theorem d_D_has_0 : decode b_D_has 0 = .ok (.iload_n 0, 1) := by decide +kernel
theorem d_D_has_1 : decode b_D_has 1 = .ok (.iload_n 1, 1) := by decide +kernel
theorem d_D_has_2 : decode b_D_has 2 = .ok (.ishr, 1) := by decide +kernel
theorem d_D_has_3 : decode b_D_has 3 = .ok (.iconst 1, 1) := by decide +kernel
theorem d_D_has_4 : decode b_D_has 4 = .ok (.iand, 1) := by decide +kernel
theorem d_D_has_5 : decode b_D_has 5 = .ok (.ifCond .eq 7, 3) := by decide +kernel
theorem d_D_has_8 : decode b_D_has 8 = .ok (.iconst 1, 1) := by decide +kernel
theorem d_D_has_9 : decode b_D_has 9 = .ok (.goto 4, 3) := by decide +kernel
theorem d_D_has_12 : decode b_D_has 12 = .ok (.iconst 0, 1) := by decide +kernel
theorem d_D_has_13 : decode b_D_has 13 = .ok (.ireturn, 1) := by decide +kernel
abbrev b_D_everyFarm : ByteArray := prog_1_method_37_code
def y_D_everyFarm : MethodName := ⟨R_D, "everyFarm", "()I"⟩
theorem mc_D_everyFarm : Cond.code y_D_everyFarm b_D_everyFarm 1 (Option.some .int) ∈ lw_use := g_use (List.mem_of_getElem? (i := 244) (by decide +kernel)) rfl
theorem d_D_everyFarm_0 : decode b_D_everyFarm 0 = .ok (.iconst 1, 1) := by decide +kernel
theorem d_D_everyFarm_1 : decode b_D_everyFarm 1 = .ok (.aload_n 0, 1) := by decide +kernel
theorem d_D_everyFarm_2 : decode b_D_everyFarm 2 = .ok (.getfield 69, 3) := by decide +kernel
theorem d_D_everyFarm_5 : decode b_D_everyFarm 5 = .ok (.ishl, 1) := by decide +kernel
theorem d_D_everyFarm_6 : decode b_D_everyFarm 6 = .ok (.iconst 1, 1) := by decide +kernel
theorem d_D_everyFarm_7 : decode b_D_everyFarm 7 = .ok (.isub, 1) := by decide +kernel
theorem d_D_everyFarm_8 : decode b_D_everyFarm 8 = .ok (.ireturn, 1) := by decide +kernel
abbrev b_D_copyRow : ByteArray := prog_1_method_38_code
def y_D_copyRow : MethodName := ⟨R_D, "copyRow", "([I[I)V"⟩
theorem mc_D_copyRow : Cond.code y_D_copyRow b_D_copyRow 3 none ∈ lw_use := g_use (List.mem_of_getElem? (i := 287) (by decide +kernel)) rfl
theorem d_D_copyRow_0 : decode b_D_copyRow 0 = .ok (.iconst 0, 1) := by decide +kernel
theorem d_D_copyRow_1 : decode b_D_copyRow 1 = .ok (.istore_n 2, 1) := by decide +kernel
theorem d_D_copyRow_2 : decode b_D_copyRow 2 = .ok (.iload_n 2, 1) := by decide +kernel
theorem d_D_copyRow_3 : decode b_D_copyRow 3 = .ok (.aload_n 0, 1) := by decide +kernel
theorem d_D_copyRow_4 : decode b_D_copyRow 4 = .ok (.arraylength, 1) := by decide +kernel
theorem d_D_copyRow_5 : decode b_D_copyRow 5 = .ok (.if_icmp .ge 21, 3) := by decide +kernel
theorem d_D_copyRow_8 : decode b_D_copyRow 8 = .ok (.iload_n 2, 1) := by decide +kernel
theorem d_D_copyRow_9 : decode b_D_copyRow 9 = .ok (.aload_n 1, 1) := by decide +kernel
theorem d_D_copyRow_10 : decode b_D_copyRow 10 = .ok (.arraylength, 1) := by decide +kernel
theorem d_D_copyRow_11 : decode b_D_copyRow 11 = .ok (.if_icmp .ge 15, 3) := by decide +kernel
theorem d_D_copyRow_14 : decode b_D_copyRow 14 = .ok (.aload_n 1, 1) := by decide +kernel
theorem d_D_copyRow_15 : decode b_D_copyRow 15 = .ok (.iload_n 2, 1) := by decide +kernel
theorem d_D_copyRow_16 : decode b_D_copyRow 16 = .ok (.aload_n 0, 1) := by decide +kernel
theorem d_D_copyRow_17 : decode b_D_copyRow 17 = .ok (.iload_n 2, 1) := by decide +kernel
theorem d_D_copyRow_18 : decode b_D_copyRow 18 = .ok (.iaload, 1) := by decide +kernel
theorem d_D_copyRow_19 : decode b_D_copyRow 19 = .ok (.iastore, 1) := by decide +kernel
theorem d_D_copyRow_20 : decode b_D_copyRow 20 = .ok (.iinc 2 1, 3) := by decide +kernel
theorem d_D_copyRow_23 : decode b_D_copyRow 23 = .ok (.goto (-21), 3) := by decide +kernel
theorem d_D_copyRow_26 : decode b_D_copyRow 26 = .ok (.return_, 1) := by decide +kernel
abbrev b_D_settleFarm : ByteArray := prog_1_method_39_code
def y_D_settleFarm : MethodName := ⟨R_D, "settleFarm", "(I)V"⟩
theorem mc_D_settleFarm : Cond.code y_D_settleFarm b_D_settleFarm 2 none ∈ lw_use := g_use (List.mem_of_getElem? (i := 233) (by decide +kernel)) rfl
theorem d_D_settleFarm_0 : decode b_D_settleFarm 0 = .ok (.aload_n 0, 1) := by decide +kernel
theorem d_D_settleFarm_1 : decode b_D_settleFarm 1 = .ok (.getfield 69, 3) := by decide +kernel
theorem d_D_settleFarm_4 : decode b_D_settleFarm 4 = .ok (.bipush 6, 2) := by decide +kernel
theorem d_D_settleFarm_6 : decode b_D_settleFarm 6 = .ok (.if_icmp .lt 4, 3) := by decide +kernel
theorem d_D_settleFarm_9 : decode b_D_settleFarm 9 = .ok (.return_, 1) := by decide +kernel
theorem d_D_settleFarm_10 : decode b_D_settleFarm 10 = .ok (.aload_n 0, 1) := by decide +kernel
theorem d_D_settleFarm_11 : decode b_D_settleFarm 11 = .ok (.getfield 29, 3) := by decide +kernel
theorem d_D_settleFarm_14 : decode b_D_settleFarm 14 = .ok (.getfield 117, 3) := by decide +kernel
theorem d_D_settleFarm_17 : decode b_D_settleFarm 17 = .ok (.aload_n 0, 1) := by decide +kernel
theorem d_D_settleFarm_18 : decode b_D_settleFarm 18 = .ok (.getfield 69, 3) := by decide +kernel
theorem d_D_settleFarm_21 : decode b_D_settleFarm 21 = .ok (.aload_n 0, 1) := by decide +kernel
theorem d_D_settleFarm_22 : decode b_D_settleFarm 22 = .ok (.getfield 10, 3) := by decide +kernel
theorem d_D_settleFarm_25 : decode b_D_settleFarm 25 = .ok (.iload_n 1, 1) := by decide +kernel
theorem d_D_settleFarm_26 : decode b_D_settleFarm 26 = .ok (.invokevirtual 95, 3) := by decide +kernel
theorem d_D_settleFarm_29 : decode b_D_settleFarm 29 = .ok (.iastore, 1) := by decide +kernel
theorem d_D_settleFarm_30 : decode b_D_settleFarm 30 = .ok (.aload_n 0, 1) := by decide +kernel
theorem d_D_settleFarm_31 : decode b_D_settleFarm 31 = .ok (.getfield 16, 3) := by decide +kernel
theorem d_D_settleFarm_34 : decode b_D_settleFarm 34 = .ok (.aload_n 0, 1) := by decide +kernel
theorem d_D_settleFarm_35 : decode b_D_settleFarm 35 = .ok (.getfield 69, 3) := by decide +kernel
theorem d_D_settleFarm_38 : decode b_D_settleFarm 38 = .ok (.aload_n 0, 1) := by decide +kernel
theorem d_D_settleFarm_39 : decode b_D_settleFarm 39 = .ok (.getfield 10, 3) := by decide +kernel
theorem d_D_settleFarm_42 : decode b_D_settleFarm 42 = .ok (.iload_n 1, 1) := by decide +kernel
theorem d_D_settleFarm_43 : decode b_D_settleFarm 43 = .ok (.iconst 1, 1) := by decide +kernel
theorem d_D_settleFarm_44 : decode b_D_settleFarm 44 = .ok (.iadd, 1) := by decide +kernel
theorem d_D_settleFarm_45 : decode b_D_settleFarm 45 = .ok (.invokevirtual 95, 3) := by decide +kernel
theorem d_D_settleFarm_48 : decode b_D_settleFarm 48 = .ok (.iastore, 1) := by decide +kernel
theorem d_D_settleFarm_49 : decode b_D_settleFarm 49 = .ok (.aload_n 0, 1) := by decide +kernel
theorem d_D_settleFarm_50 : decode b_D_settleFarm 50 = .ok (.getfield 29, 3) := by decide +kernel
theorem d_D_settleFarm_53 : decode b_D_settleFarm 53 = .ok (.getfield 120, 3) := by decide +kernel
theorem d_D_settleFarm_56 : decode b_D_settleFarm 56 = .ok (.aload_n 0, 1) := by decide +kernel
theorem d_D_settleFarm_57 : decode b_D_settleFarm 57 = .ok (.getfield 69, 3) := by decide +kernel
theorem d_D_settleFarm_60 : decode b_D_settleFarm 60 = .ok (.aload_n 0, 1) := by decide +kernel
theorem d_D_settleFarm_61 : decode b_D_settleFarm 61 = .ok (.getfield 10, 3) := by decide +kernel
theorem d_D_settleFarm_64 : decode b_D_settleFarm 64 = .ok (.iload_n 1, 1) := by decide +kernel
theorem d_D_settleFarm_65 : decode b_D_settleFarm 65 = .ok (.iconst 2, 1) := by decide +kernel
theorem d_D_settleFarm_66 : decode b_D_settleFarm 66 = .ok (.iadd, 1) := by decide +kernel
theorem d_D_settleFarm_67 : decode b_D_settleFarm 67 = .ok (.invokevirtual 95, 3) := by decide +kernel
theorem d_D_settleFarm_70 : decode b_D_settleFarm 70 = .ok (.iastore, 1) := by decide +kernel
theorem d_D_settleFarm_71 : decode b_D_settleFarm 71 = .ok (.aload_n 0, 1) := by decide +kernel
theorem d_D_settleFarm_72 : decode b_D_settleFarm 72 = .ok (.getfield 20, 3) := by decide +kernel
theorem d_D_settleFarm_75 : decode b_D_settleFarm 75 = .ok (.aload_n 0, 1) := by decide +kernel
theorem d_D_settleFarm_76 : decode b_D_settleFarm 76 = .ok (.getfield 69, 3) := by decide +kernel
theorem d_D_settleFarm_79 : decode b_D_settleFarm 79 = .ok (.aload_n 0, 1) := by decide +kernel
theorem d_D_settleFarm_80 : decode b_D_settleFarm 80 = .ok (.getfield 10, 3) := by decide +kernel
theorem d_D_settleFarm_83 : decode b_D_settleFarm 83 = .ok (.iload_n 1, 1) := by decide +kernel
theorem d_D_settleFarm_84 : decode b_D_settleFarm 84 = .ok (.iconst 3, 1) := by decide +kernel
theorem d_D_settleFarm_85 : decode b_D_settleFarm 85 = .ok (.iadd, 1) := by decide +kernel
theorem d_D_settleFarm_86 : decode b_D_settleFarm 86 = .ok (.invokevirtual 95, 3) := by decide +kernel
theorem d_D_settleFarm_89 : decode b_D_settleFarm 89 = .ok (.iastore, 1) := by decide +kernel
theorem d_D_settleFarm_90 : decode b_D_settleFarm 90 = .ok (.aload_n 0, 1) := by decide +kernel
theorem d_D_settleFarm_91 : decode b_D_settleFarm 91 = .ok (.getfield 23, 3) := by decide +kernel
theorem d_D_settleFarm_94 : decode b_D_settleFarm 94 = .ok (.aload_n 0, 1) := by decide +kernel
theorem d_D_settleFarm_95 : decode b_D_settleFarm 95 = .ok (.getfield 69, 3) := by decide +kernel
theorem d_D_settleFarm_98 : decode b_D_settleFarm 98 = .ok (.aload_n 0, 1) := by decide +kernel
theorem d_D_settleFarm_99 : decode b_D_settleFarm 99 = .ok (.getfield 10, 3) := by decide +kernel
theorem d_D_settleFarm_102 : decode b_D_settleFarm 102 = .ok (.iload_n 1, 1) := by decide +kernel
theorem d_D_settleFarm_103 : decode b_D_settleFarm 103 = .ok (.iconst 4, 1) := by decide +kernel
theorem d_D_settleFarm_104 : decode b_D_settleFarm 104 = .ok (.iadd, 1) := by decide +kernel
theorem d_D_settleFarm_105 : decode b_D_settleFarm 105 = .ok (.invokevirtual 95, 3) := by decide +kernel
theorem d_D_settleFarm_108 : decode b_D_settleFarm 108 = .ok (.iastore, 1) := by decide +kernel
theorem d_D_settleFarm_109 : decode b_D_settleFarm 109 = .ok (.aload_n 0, 1) := by decide +kernel
theorem d_D_settleFarm_110 : decode b_D_settleFarm 110 = .ok (.getfield 29, 3) := by decide +kernel
theorem d_D_settleFarm_113 : decode b_D_settleFarm 113 = .ok (.getfield 123, 3) := by decide +kernel
theorem d_D_settleFarm_116 : decode b_D_settleFarm 116 = .ok (.aload_n 0, 1) := by decide +kernel
theorem d_D_settleFarm_117 : decode b_D_settleFarm 117 = .ok (.getfield 69, 3) := by decide +kernel
theorem d_D_settleFarm_120 : decode b_D_settleFarm 120 = .ok (.aload_n 0, 1) := by decide +kernel
theorem d_D_settleFarm_121 : decode b_D_settleFarm 121 = .ok (.getfield 69, 3) := by decide +kernel
theorem d_D_settleFarm_124 : decode b_D_settleFarm 124 = .ok (.iastore, 1) := by decide +kernel
theorem d_D_settleFarm_125 : decode b_D_settleFarm 125 = .ok (.aload_n 0, 1) := by decide +kernel
theorem d_D_settleFarm_126 : decode b_D_settleFarm 126 = .ok (.dup, 1) := by decide +kernel
theorem d_D_settleFarm_127 : decode b_D_settleFarm 127 = .ok (.getfield 69, 3) := by decide +kernel
theorem d_D_settleFarm_130 : decode b_D_settleFarm 130 = .ok (.iconst 1, 1) := by decide +kernel
theorem d_D_settleFarm_131 : decode b_D_settleFarm 131 = .ok (.iadd, 1) := by decide +kernel
theorem d_D_settleFarm_132 : decode b_D_settleFarm 132 = .ok (.putfield 69, 3) := by decide +kernel
theorem d_D_settleFarm_135 : decode b_D_settleFarm 135 = .ok (.return_, 1) := by decide +kernel
abbrev b_D_actRow : ByteArray := prog_1_method_40_code
def y_D_actRow : MethodName := ⟨R_D, "actRow", "(I)I"⟩
theorem mc_D_actRow : Cond.code y_D_actRow b_D_actRow 2 (Option.some .int) ∈ lw_use := g_use (List.mem_of_getElem? (i := 280) (by decide +kernel)) rfl
theorem d_D_actRow_0 : decode b_D_actRow 0 = .ok (.aload_n 0, 1) := by decide +kernel
theorem d_D_actRow_1 : decode b_D_actRow 1 = .ok (.getfield 224, 3) := by decide +kernel
theorem d_D_actRow_4 : decode b_D_actRow 4 = .ok (.iload_n 1, 1) := by decide +kernel
theorem d_D_actRow_5 : decode b_D_actRow 5 = .ok (.iadd, 1) := by decide +kernel
theorem d_D_actRow_6 : decode b_D_actRow 6 = .ok (.bipush 14, 2) := by decide +kernel
theorem d_D_actRow_8 : decode b_D_actRow 8 = .ok (.irem, 1) := by decide +kernel
theorem d_D_actRow_9 : decode b_D_actRow 9 = .ok (.ireturn, 1) := by decide +kernel
abbrev b_D_remember : ByteArray := prog_1_method_41_code
def y_D_remember : MethodName := ⟨R_D, "remember", "()V"⟩
theorem mc_D_remember : Cond.code y_D_remember b_D_remember 1 none ∈ lw_use := g_use (List.mem_of_getElem? (i := 276) (by decide +kernel)) rfl
theorem d_D_remember_0 : decode b_D_remember 0 = .ok (.aload_n 0, 1) := by decide +kernel
theorem d_D_remember_1 : decode b_D_remember 1 = .ok (.getfield 72, 3) := by decide +kernel
theorem d_D_remember_4 : decode b_D_remember 4 = .ok (.bipush 14, 2) := by decide +kernel
theorem d_D_remember_6 : decode b_D_remember 6 = .ok (.if_icmp .ne 22, 3) := by decide +kernel
theorem d_D_remember_9 : decode b_D_remember 9 = .ok (.aload_n 0, 1) := by decide +kernel
theorem d_D_remember_10 : decode b_D_remember 10 = .ok (.aload_n 0, 1) := by decide +kernel
theorem d_D_remember_11 : decode b_D_remember 11 = .ok (.iconst 1, 1) := by decide +kernel
theorem d_D_remember_12 : decode b_D_remember 12 = .ok (.invokevirtual 154, 3) := by decide +kernel
theorem d_D_remember_15 : decode b_D_remember 15 = .ok (.putfield 224, 3) := by decide +kernel
theorem d_D_remember_18 : decode b_D_remember 18 = .ok (.aload_n 0, 1) := by decide +kernel
theorem d_D_remember_19 : decode b_D_remember 19 = .ok (.dup, 1) := by decide +kernel
theorem d_D_remember_20 : decode b_D_remember 20 = .ok (.getfield 72, 3) := by decide +kernel
theorem d_D_remember_23 : decode b_D_remember 23 = .ok (.iconst 1, 1) := by decide +kernel
theorem d_D_remember_24 : decode b_D_remember 24 = .ok (.isub, 1) := by decide +kernel
theorem d_D_remember_25 : decode b_D_remember 25 = .ok (.putfield 72, 3) := by decide +kernel
theorem d_D_remember_28 : decode b_D_remember 28 = .ok (.aload_n 0, 1) := by decide +kernel
theorem d_D_remember_29 : decode b_D_remember 29 = .ok (.getfield 33, 3) := by decide +kernel
theorem d_D_remember_32 : decode b_D_remember 32 = .ok (.aload_n 0, 1) := by decide +kernel
theorem d_D_remember_33 : decode b_D_remember 33 = .ok (.aload_n 0, 1) := by decide +kernel
theorem d_D_remember_34 : decode b_D_remember 34 = .ok (.getfield 72, 3) := by decide +kernel
theorem d_D_remember_37 : decode b_D_remember 37 = .ok (.invokevirtual 154, 3) := by decide +kernel
theorem d_D_remember_40 : decode b_D_remember 40 = .ok (.aaload, 1) := by decide +kernel
theorem d_D_remember_41 : decode b_D_remember 41 = .ok (.aload_n 0, 1) := by decide +kernel
theorem d_D_remember_42 : decode b_D_remember 42 = .ok (.getfield 29, 3) := by decide +kernel
theorem d_D_remember_45 : decode b_D_remember 45 = .ok (.invokevirtual 157, 3) := by decide +kernel
theorem d_D_remember_48 : decode b_D_remember 48 = .ok (.aload_n 0, 1) := by decide +kernel
theorem d_D_remember_49 : decode b_D_remember 49 = .ok (.dup, 1) := by decide +kernel
theorem d_D_remember_50 : decode b_D_remember 50 = .ok (.getfield 72, 3) := by decide +kernel
theorem d_D_remember_53 : decode b_D_remember 53 = .ok (.iconst 1, 1) := by decide +kernel
theorem d_D_remember_54 : decode b_D_remember 54 = .ok (.iadd, 1) := by decide +kernel
theorem d_D_remember_55 : decode b_D_remember 55 = .ok (.putfield 72, 3) := by decide +kernel
theorem d_D_remember_58 : decode b_D_remember 58 = .ok (.return_, 1) := by decide +kernel
abbrev b_D_strengthAt : ByteArray := prog_1_method_42_code
def y_D_strengthAt : MethodName := ⟨R_D, "strengthAt", "(II)I"⟩
theorem mc_D_strengthAt : Cond.code y_D_strengthAt b_D_strengthAt 3 (Option.some .int) ∈ lw_use := g_use (List.mem_of_getElem? (i := 261) (by decide +kernel)) rfl
theorem d_D_strengthAt_0 : decode b_D_strengthAt 0 = .ok (.aload_n 0, 1) := by decide +kernel
theorem d_D_strengthAt_1 : decode b_D_strengthAt 1 = .ok (.getfield 23, 3) := by decide +kernel
theorem d_D_strengthAt_4 : decode b_D_strengthAt 4 = .ok (.iload_n 1, 1) := by decide +kernel
theorem d_D_strengthAt_5 : decode b_D_strengthAt 5 = .ok (.iaload, 1) := by decide +kernel
theorem d_D_strengthAt_6 : decode b_D_strengthAt 6 = .ok (.tableswitch 50 1 3 #[26, 28, 39], 26) := by decide +kernel
theorem d_D_strengthAt_32 : decode b_D_strengthAt 32 = .ok (.iload_n 2, 1) := by decide +kernel
theorem d_D_strengthAt_33 : decode b_D_strengthAt 33 = .ok (.ireturn, 1) := by decide +kernel
theorem d_D_strengthAt_34 : decode b_D_strengthAt 34 = .ok (.iload_n 2, 1) := by decide +kernel
theorem d_D_strengthAt_35 : decode b_D_strengthAt 35 = .ok (.iconst 2, 1) := by decide +kernel
theorem d_D_strengthAt_36 : decode b_D_strengthAt 36 = .ok (.aload_n 0, 1) := by decide +kernel
theorem d_D_strengthAt_37 : decode b_D_strengthAt 37 = .ok (.getfield 16, 3) := by decide +kernel
theorem d_D_strengthAt_40 : decode b_D_strengthAt 40 = .ok (.iload_n 1, 1) := by decide +kernel
theorem d_D_strengthAt_41 : decode b_D_strengthAt 41 = .ok (.iaload, 1) := by decide +kernel
theorem d_D_strengthAt_42 : decode b_D_strengthAt 42 = .ok (.imul, 1) := by decide +kernel
theorem d_D_strengthAt_43 : decode b_D_strengthAt 43 = .ok (.iadd, 1) := by decide +kernel
theorem d_D_strengthAt_44 : decode b_D_strengthAt 44 = .ok (.ireturn, 1) := by decide +kernel
theorem d_D_strengthAt_45 : decode b_D_strengthAt 45 = .ok (.iload_n 2, 1) := by decide +kernel
theorem d_D_strengthAt_46 : decode b_D_strengthAt 46 = .ok (.aload_n 0, 1) := by decide +kernel
theorem d_D_strengthAt_47 : decode b_D_strengthAt 47 = .ok (.getfield 16, 3) := by decide +kernel
theorem d_D_strengthAt_50 : decode b_D_strengthAt 50 = .ok (.iload_n 1, 1) := by decide +kernel
theorem d_D_strengthAt_51 : decode b_D_strengthAt 51 = .ok (.iaload, 1) := by decide +kernel
theorem d_D_strengthAt_52 : decode b_D_strengthAt 52 = .ok (.iadd, 1) := by decide +kernel
theorem d_D_strengthAt_53 : decode b_D_strengthAt 53 = .ok (.iconst 2, 1) := by decide +kernel
theorem d_D_strengthAt_54 : decode b_D_strengthAt 54 = .ok (.iadd, 1) := by decide +kernel
theorem d_D_strengthAt_55 : decode b_D_strengthAt 55 = .ok (.ireturn, 1) := by decide +kernel
theorem d_D_strengthAt_56 : decode b_D_strengthAt 56 = .ok (.iload_n 2, 1) := by decide +kernel
theorem d_D_strengthAt_57 : decode b_D_strengthAt 57 = .ok (.aload_n 0, 1) := by decide +kernel
theorem d_D_strengthAt_58 : decode b_D_strengthAt 58 = .ok (.getfield 16, 3) := by decide +kernel
theorem d_D_strengthAt_61 : decode b_D_strengthAt 61 = .ok (.iload_n 1, 1) := by decide +kernel
theorem d_D_strengthAt_62 : decode b_D_strengthAt 62 = .ok (.iaload, 1) := by decide +kernel
theorem d_D_strengthAt_63 : decode b_D_strengthAt 63 = .ok (.iadd, 1) := by decide +kernel
theorem d_D_strengthAt_64 : decode b_D_strengthAt 64 = .ok (.ireturn, 1) := by decide +kernel
abbrev b_D_heightBehind : ByteArray := prog_1_method_43_code
def y_D_heightBehind : MethodName := ⟨R_D, "heightBehind", "(III)I"⟩
theorem mc_D_heightBehind : Cond.code y_D_heightBehind b_D_heightBehind 5 (Option.some .int) ∈ lw_use := g_use (List.mem_of_getElem? (i := 295) (by decide +kernel)) rfl
theorem d_D_heightBehind_0 : decode b_D_heightBehind 0 = .ok (.aload_n 0, 1) := by decide +kernel
theorem d_D_heightBehind_1 : decode b_D_heightBehind 1 = .ok (.iload_n 1, 1) := by decide +kernel
theorem d_D_heightBehind_2 : decode b_D_heightBehind 2 = .ok (.iload_n 2, 1) := by decide +kernel
theorem d_D_heightBehind_3 : decode b_D_heightBehind 3 = .ok (.invokevirtual 126, 3) := by decide +kernel
theorem d_D_heightBehind_6 : decode b_D_heightBehind 6 = .ok (.istore 4, 2) := by decide +kernel
theorem d_D_heightBehind_8 : decode b_D_heightBehind 8 = .ok (.iload_n 3, 1) := by decide +kernel
theorem d_D_heightBehind_9 : decode b_D_heightBehind 9 = .ok (.iload 4, 2) := by decide +kernel
theorem d_D_heightBehind_11 : decode b_D_heightBehind 11 = .ok (.if_icmp .le 5, 3) := by decide +kernel
theorem d_D_heightBehind_14 : decode b_D_heightBehind 14 = .ok (.iconst 0, 1) := by decide +kernel
theorem d_D_heightBehind_15 : decode b_D_heightBehind 15 = .ok (.ireturn, 1) := by decide +kernel
theorem d_D_heightBehind_16 : decode b_D_heightBehind 16 = .ok (.iload_n 3, 1) := by decide +kernel
theorem d_D_heightBehind_17 : decode b_D_heightBehind 17 = .ok (.iload 4, 2) := by decide +kernel
theorem d_D_heightBehind_19 : decode b_D_heightBehind 19 = .ok (.if_icmp .ne 13, 3) := by decide +kernel
theorem d_D_heightBehind_22 : decode b_D_heightBehind 22 = .ok (.iload_n 2, 1) := by decide +kernel
theorem d_D_heightBehind_23 : decode b_D_heightBehind 23 = .ok (.iconst 1, 1) := by decide +kernel
theorem d_D_heightBehind_24 : decode b_D_heightBehind 24 = .ok (.isub, 1) := by decide +kernel
theorem d_D_heightBehind_25 : decode b_D_heightBehind 25 = .ok (.iconst 0, 1) := by decide +kernel
theorem d_D_heightBehind_26 : decode b_D_heightBehind 26 = .ok (.invokestatic 227, 3) := by decide +kernel
theorem d_D_heightBehind_29 : decode b_D_heightBehind 29 = .ok (.goto 4, 3) := by decide +kernel
theorem d_D_heightBehind_32 : decode b_D_heightBehind 32 = .ok (.iload_n 2, 1) := by decide +kernel
theorem d_D_heightBehind_33 : decode b_D_heightBehind 33 = .ok (.ireturn, 1) := by decide +kernel
abbrev b_D_brokenBy : ByteArray := prog_1_method_44_code
def y_D_brokenBy : MethodName := ⟨R_D, "brokenBy", "(I)I"⟩
theorem mc_D_brokenBy : Cond.code y_D_brokenBy b_D_brokenBy 4 (Option.some .int) ∈ lw_use := g_use (List.mem_of_getElem? (i := 338) (by decide +kernel)) rfl
theorem d_D_brokenBy_0 : decode b_D_brokenBy 0 = .ok (.iconst 0, 1) := by decide +kernel
theorem d_D_brokenBy_1 : decode b_D_brokenBy 1 = .ok (.istore_n 2, 1) := by decide +kernel
theorem d_D_brokenBy_2 : decode b_D_brokenBy 2 = .ok (.iconst 0, 1) := by decide +kernel
theorem d_D_brokenBy_3 : decode b_D_brokenBy 3 = .ok (.istore_n 3, 1) := by decide +kernel
theorem d_D_brokenBy_4 : decode b_D_brokenBy 4 = .ok (.iload_n 3, 1) := by decide +kernel
theorem d_D_brokenBy_5 : decode b_D_brokenBy 5 = .ok (.aload_n 0, 1) := by decide +kernel
theorem d_D_brokenBy_6 : decode b_D_brokenBy 6 = .ok (.getfield 69, 3) := by decide +kernel
theorem d_D_brokenBy_9 : decode b_D_brokenBy 9 = .ok (.if_icmp .ge 34, 3) := by decide +kernel
theorem d_D_brokenBy_12 : decode b_D_brokenBy 12 = .ok (.iload_n 1, 1) := by decide +kernel
theorem d_D_brokenBy_13 : decode b_D_brokenBy 13 = .ok (.aload_n 0, 1) := by decide +kernel
theorem d_D_brokenBy_14 : decode b_D_brokenBy 14 = .ok (.iload_n 3, 1) := by decide +kernel
theorem d_D_brokenBy_15 : decode b_D_brokenBy 15 = .ok (.aload_n 0, 1) := by decide +kernel
theorem d_D_brokenBy_16 : decode b_D_brokenBy 16 = .ok (.getfield 29, 3) := by decide +kernel
theorem d_D_brokenBy_19 : decode b_D_brokenBy 19 = .ok (.getfield 117, 3) := by decide +kernel
theorem d_D_brokenBy_22 : decode b_D_brokenBy 22 = .ok (.iload_n 3, 1) := by decide +kernel
theorem d_D_brokenBy_23 : decode b_D_brokenBy 23 = .ok (.iaload, 1) := by decide +kernel
theorem d_D_brokenBy_24 : decode b_D_brokenBy 24 = .ok (.invokevirtual 126, 3) := by decide +kernel
theorem d_D_brokenBy_27 : decode b_D_brokenBy 27 = .ok (.if_icmp .le 10, 3) := by decide +kernel
theorem d_D_brokenBy_30 : decode b_D_brokenBy 30 = .ok (.iload_n 2, 1) := by decide +kernel
theorem d_D_brokenBy_31 : decode b_D_brokenBy 31 = .ok (.iload_n 3, 1) := by decide +kernel
theorem d_D_brokenBy_32 : decode b_D_brokenBy 32 = .ok (.invokestatic 98, 3) := by decide +kernel
theorem d_D_brokenBy_35 : decode b_D_brokenBy 35 = .ok (.ior, 1) := by decide +kernel
theorem d_D_brokenBy_36 : decode b_D_brokenBy 36 = .ok (.istore_n 2, 1) := by decide +kernel
theorem d_D_brokenBy_37 : decode b_D_brokenBy 37 = .ok (.iinc 3 1, 3) := by decide +kernel
theorem d_D_brokenBy_40 : decode b_D_brokenBy 40 = .ok (.goto (-36), 3) := by decide +kernel
theorem d_D_brokenBy_43 : decode b_D_brokenBy 43 = .ok (.iload_n 2, 1) := by decide +kernel
theorem d_D_brokenBy_44 : decode b_D_brokenBy 44 = .ok (.ireturn, 1) := by decide +kernel
abbrev b_D_strike : ByteArray := prog_1_method_45_code
def y_D_strike : MethodName := ⟨R_D, "strike", "([II)I"⟩
theorem mc_D_strike : Cond.code y_D_strike b_D_strike 5 (Option.some .int) ∈ lw_use := g_use (List.mem_of_getElem? (i := 291) (by decide +kernel)) rfl
theorem d_D_strike_0 : decode b_D_strike 0 = .ok (.iconst 0, 1) := by decide +kernel
theorem d_D_strike_1 : decode b_D_strike 1 = .ok (.istore_n 3, 1) := by decide +kernel
theorem d_D_strike_2 : decode b_D_strike 2 = .ok (.iconst 0, 1) := by decide +kernel
theorem d_D_strike_3 : decode b_D_strike 3 = .ok (.istore 4, 2) := by decide +kernel
theorem d_D_strike_5 : decode b_D_strike 5 = .ok (.iload 4, 2) := by decide +kernel
theorem d_D_strike_7 : decode b_D_strike 7 = .ok (.aload_n 0, 1) := by decide +kernel
theorem d_D_strike_8 : decode b_D_strike 8 = .ok (.getfield 69, 3) := by decide +kernel
theorem d_D_strike_11 : decode b_D_strike 11 = .ok (.if_icmp .ge 53, 3) := by decide +kernel
theorem d_D_strike_14 : decode b_D_strike 14 = .ok (.iload 4, 2) := by decide +kernel
theorem d_D_strike_16 : decode b_D_strike 16 = .ok (.aload_n 1, 1) := by decide +kernel
theorem d_D_strike_17 : decode b_D_strike 17 = .ok (.arraylength, 1) := by decide +kernel
theorem d_D_strike_18 : decode b_D_strike 18 = .ok (.if_icmp .ge 46, 3) := by decide +kernel
theorem d_D_strike_21 : decode b_D_strike 21 = .ok (.iload_n 2, 1) := by decide +kernel
theorem d_D_strike_22 : decode b_D_strike 22 = .ok (.aload_n 0, 1) := by decide +kernel
theorem d_D_strike_23 : decode b_D_strike 23 = .ok (.iload 4, 2) := by decide +kernel
theorem d_D_strike_25 : decode b_D_strike 25 = .ok (.aload_n 1, 1) := by decide +kernel
theorem d_D_strike_26 : decode b_D_strike 26 = .ok (.iload 4, 2) := by decide +kernel
theorem d_D_strike_28 : decode b_D_strike 28 = .ok (.iaload, 1) := by decide +kernel
theorem d_D_strike_29 : decode b_D_strike 29 = .ok (.invokevirtual 126, 3) := by decide +kernel
theorem d_D_strike_32 : decode b_D_strike 32 = .ok (.if_icmp .le 11, 3) := by decide +kernel
theorem d_D_strike_35 : decode b_D_strike 35 = .ok (.iload_n 3, 1) := by decide +kernel
theorem d_D_strike_36 : decode b_D_strike 36 = .ok (.iload 4, 2) := by decide +kernel
theorem d_D_strike_38 : decode b_D_strike 38 = .ok (.invokestatic 98, 3) := by decide +kernel
theorem d_D_strike_41 : decode b_D_strike 41 = .ok (.ior, 1) := by decide +kernel
theorem d_D_strike_42 : decode b_D_strike 42 = .ok (.istore_n 3, 1) := by decide +kernel
theorem d_D_strike_43 : decode b_D_strike 43 = .ok (.aload_n 1, 1) := by decide +kernel
theorem d_D_strike_44 : decode b_D_strike 44 = .ok (.iload 4, 2) := by decide +kernel
theorem d_D_strike_46 : decode b_D_strike 46 = .ok (.aload_n 0, 1) := by decide +kernel
theorem d_D_strike_47 : decode b_D_strike 47 = .ok (.iload 4, 2) := by decide +kernel
theorem d_D_strike_49 : decode b_D_strike 49 = .ok (.aload_n 1, 1) := by decide +kernel
theorem d_D_strike_50 : decode b_D_strike 50 = .ok (.iload 4, 2) := by decide +kernel
theorem d_D_strike_52 : decode b_D_strike 52 = .ok (.iaload, 1) := by decide +kernel
theorem d_D_strike_53 : decode b_D_strike 53 = .ok (.iload_n 2, 1) := by decide +kernel
theorem d_D_strike_54 : decode b_D_strike 54 = .ok (.invokevirtual 232, 3) := by decide +kernel
theorem d_D_strike_57 : decode b_D_strike 57 = .ok (.iastore, 1) := by decide +kernel
theorem d_D_strike_58 : decode b_D_strike 58 = .ok (.iinc 4 1, 3) := by decide +kernel
theorem d_D_strike_61 : decode b_D_strike 61 = .ok (.goto (-56), 3) := by decide +kernel
theorem d_D_strike_64 : decode b_D_strike 64 = .ok (.iload_n 3, 1) := by decide +kernel
theorem d_D_strike_65 : decode b_D_strike 65 = .ok (.ireturn, 1) := by decide +kernel
abbrev b_D_wetBy : ByteArray := prog_1_method_46_code
def y_D_wetBy : MethodName := ⟨R_D, "wetBy", "(I)I"⟩
theorem mc_D_wetBy : Cond.code y_D_wetBy b_D_wetBy 4 (Option.some .int) ∈ lw_use := g_use (List.mem_of_getElem? (i := 302) (by decide +kernel)) rfl
theorem d_D_wetBy_0 : decode b_D_wetBy 0 = .ok (.iload_n 1, 1) := by decide +kernel
theorem d_D_wetBy_1 : decode b_D_wetBy 1 = .ok (.istore_n 2, 1) := by decide +kernel
theorem d_D_wetBy_2 : decode b_D_wetBy 2 = .ok (.iconst 0, 1) := by decide +kernel
theorem d_D_wetBy_3 : decode b_D_wetBy 3 = .ok (.istore_n 3, 1) := by decide +kernel
theorem d_D_wetBy_4 : decode b_D_wetBy 4 = .ok (.iload_n 3, 1) := by decide +kernel
theorem d_D_wetBy_5 : decode b_D_wetBy 5 = .ok (.aload_n 0, 1) := by decide +kernel
theorem d_D_wetBy_6 : decode b_D_wetBy 6 = .ok (.getfield 69, 3) := by decide +kernel
theorem d_D_wetBy_9 : decode b_D_wetBy 9 = .ok (.iconst 1, 1) := by decide +kernel
theorem d_D_wetBy_10 : decode b_D_wetBy 10 = .ok (.isub, 1) := by decide +kernel
theorem d_D_wetBy_11 : decode b_D_wetBy 11 = .ok (.if_icmp .ge 40, 3) := by decide +kernel
theorem d_D_wetBy_14 : decode b_D_wetBy 14 = .ok (.iload_n 2, 1) := by decide +kernel
theorem d_D_wetBy_15 : decode b_D_wetBy 15 = .ok (.iload_n 3, 1) := by decide +kernel
theorem d_D_wetBy_16 : decode b_D_wetBy 16 = .ok (.invokestatic 150, 3) := by decide +kernel
theorem d_D_wetBy_19 : decode b_D_wetBy 19 = .ok (.ifCond .eq 26, 3) := by decide +kernel
theorem d_D_wetBy_22 : decode b_D_wetBy 22 = .ok (.aload_n 0, 1) := by decide +kernel
theorem d_D_wetBy_23 : decode b_D_wetBy 23 = .ok (.getfield 29, 3) := by decide +kernel
theorem d_D_wetBy_26 : decode b_D_wetBy 26 = .ok (.getfield 92, 3) := by decide +kernel
theorem d_D_wetBy_29 : decode b_D_wetBy 29 = .ok (.iload_n 3, 1) := by decide +kernel
theorem d_D_wetBy_30 : decode b_D_wetBy 30 = .ok (.invokestatic 150, 3) := by decide +kernel
theorem d_D_wetBy_33 : decode b_D_wetBy 33 = .ok (.ifCond .ne 12, 3) := by decide +kernel
theorem d_D_wetBy_36 : decode b_D_wetBy 36 = .ok (.iload_n 2, 1) := by decide +kernel
theorem d_D_wetBy_37 : decode b_D_wetBy 37 = .ok (.iload_n 3, 1) := by decide +kernel
theorem d_D_wetBy_38 : decode b_D_wetBy 38 = .ok (.iconst 1, 1) := by decide +kernel
theorem d_D_wetBy_39 : decode b_D_wetBy 39 = .ok (.iadd, 1) := by decide +kernel
theorem d_D_wetBy_40 : decode b_D_wetBy 40 = .ok (.invokestatic 98, 3) := by decide +kernel
theorem d_D_wetBy_43 : decode b_D_wetBy 43 = .ok (.ior, 1) := by decide +kernel
theorem d_D_wetBy_44 : decode b_D_wetBy 44 = .ok (.istore_n 2, 1) := by decide +kernel
theorem d_D_wetBy_45 : decode b_D_wetBy 45 = .ok (.iinc 3 1, 3) := by decide +kernel
theorem d_D_wetBy_48 : decode b_D_wetBy 48 = .ok (.goto (-44), 3) := by decide +kernel
theorem d_D_wetBy_51 : decode b_D_wetBy 51 = .ok (.aload_n 0, 1) := by decide +kernel
theorem d_D_wetBy_52 : decode b_D_wetBy 52 = .ok (.getfield 69, 3) := by decide +kernel
theorem d_D_wetBy_55 : decode b_D_wetBy 55 = .ok (.iconst 2, 1) := by decide +kernel
theorem d_D_wetBy_56 : decode b_D_wetBy 56 = .ok (.isub, 1) := by decide +kernel
theorem d_D_wetBy_57 : decode b_D_wetBy 57 = .ok (.istore_n 3, 1) := by decide +kernel
theorem d_D_wetBy_58 : decode b_D_wetBy 58 = .ok (.iload_n 3, 1) := by decide +kernel
theorem d_D_wetBy_59 : decode b_D_wetBy 59 = .ok (.ifCond .lt 40, 3) := by decide +kernel
theorem d_D_wetBy_62 : decode b_D_wetBy 62 = .ok (.iload_n 2, 1) := by decide +kernel
theorem d_D_wetBy_63 : decode b_D_wetBy 63 = .ok (.iload_n 3, 1) := by decide +kernel
theorem d_D_wetBy_64 : decode b_D_wetBy 64 = .ok (.iconst 1, 1) := by decide +kernel
theorem d_D_wetBy_65 : decode b_D_wetBy 65 = .ok (.iadd, 1) := by decide +kernel
theorem d_D_wetBy_66 : decode b_D_wetBy 66 = .ok (.invokestatic 150, 3) := by decide +kernel
theorem d_D_wetBy_69 : decode b_D_wetBy 69 = .ok (.ifCond .eq 24, 3) := by decide +kernel
theorem d_D_wetBy_72 : decode b_D_wetBy 72 = .ok (.aload_n 0, 1) := by decide +kernel
theorem d_D_wetBy_73 : decode b_D_wetBy 73 = .ok (.getfield 29, 3) := by decide +kernel
theorem d_D_wetBy_76 : decode b_D_wetBy 76 = .ok (.getfield 92, 3) := by decide +kernel
theorem d_D_wetBy_79 : decode b_D_wetBy 79 = .ok (.iload_n 3, 1) := by decide +kernel
theorem d_D_wetBy_80 : decode b_D_wetBy 80 = .ok (.invokestatic 150, 3) := by decide +kernel
theorem d_D_wetBy_83 : decode b_D_wetBy 83 = .ok (.ifCond .ne 10, 3) := by decide +kernel
theorem d_D_wetBy_86 : decode b_D_wetBy 86 = .ok (.iload_n 2, 1) := by decide +kernel
theorem d_D_wetBy_87 : decode b_D_wetBy 87 = .ok (.iload_n 3, 1) := by decide +kernel
theorem d_D_wetBy_88 : decode b_D_wetBy 88 = .ok (.invokestatic 98, 3) := by decide +kernel
theorem d_D_wetBy_91 : decode b_D_wetBy 91 = .ok (.ior, 1) := by decide +kernel
theorem d_D_wetBy_92 : decode b_D_wetBy 92 = .ok (.istore_n 2, 1) := by decide +kernel
theorem d_D_wetBy_93 : decode b_D_wetBy 93 = .ok (.iinc 3 (-1), 3) := by decide +kernel
theorem d_D_wetBy_96 : decode b_D_wetBy 96 = .ok (.goto (-38), 3) := by decide +kernel
theorem d_D_wetBy_99 : decode b_D_wetBy 99 = .ok (.iload_n 2, 1) := by decide +kernel
theorem d_D_wetBy_100 : decode b_D_wetBy 100 = .ok (.ireturn, 1) := by decide +kernel
abbrev b_D_worthOf : ByteArray := prog_1_method_47_code
def y_D_worthOf : MethodName := ⟨R_D, "worthOf", "(I)I"⟩
theorem mc_D_worthOf : Cond.code y_D_worthOf b_D_worthOf 4 (Option.some .int) ∈ lw_use := g_use (List.mem_of_getElem? (i := 306) (by decide +kernel)) rfl
theorem d_D_worthOf_0 : decode b_D_worthOf 0 = .ok (.iconst 0, 1) := by decide +kernel
theorem d_D_worthOf_1 : decode b_D_worthOf 1 = .ok (.istore_n 2, 1) := by decide +kernel
theorem d_D_worthOf_2 : decode b_D_worthOf 2 = .ok (.iconst 0, 1) := by decide +kernel
theorem d_D_worthOf_3 : decode b_D_worthOf 3 = .ok (.istore_n 3, 1) := by decide +kernel
theorem d_D_worthOf_4 : decode b_D_worthOf 4 = .ok (.iload_n 3, 1) := by decide +kernel
theorem d_D_worthOf_5 : decode b_D_worthOf 5 = .ok (.aload_n 0, 1) := by decide +kernel
theorem d_D_worthOf_6 : decode b_D_worthOf 6 = .ok (.getfield 69, 3) := by decide +kernel
theorem d_D_worthOf_9 : decode b_D_worthOf 9 = .ok (.if_icmp .ge 26, 3) := by decide +kernel
theorem d_D_worthOf_12 : decode b_D_worthOf 12 = .ok (.iload_n 1, 1) := by decide +kernel
theorem d_D_worthOf_13 : decode b_D_worthOf 13 = .ok (.iload_n 3, 1) := by decide +kernel
theorem d_D_worthOf_14 : decode b_D_worthOf 14 = .ok (.invokestatic 150, 3) := by decide +kernel
theorem d_D_worthOf_17 : decode b_D_worthOf 17 = .ok (.ifCond .eq 12, 3) := by decide +kernel
theorem d_D_worthOf_20 : decode b_D_worthOf 20 = .ok (.iload_n 2, 1) := by decide +kernel
theorem d_D_worthOf_21 : decode b_D_worthOf 21 = .ok (.aload_n 0, 1) := by decide +kernel
theorem d_D_worthOf_22 : decode b_D_worthOf 22 = .ok (.getfield 20, 3) := by decide +kernel
theorem d_D_worthOf_25 : decode b_D_worthOf 25 = .ok (.iload_n 3, 1) := by decide +kernel
theorem d_D_worthOf_26 : decode b_D_worthOf 26 = .ok (.iaload, 1) := by decide +kernel
theorem d_D_worthOf_27 : decode b_D_worthOf 27 = .ok (.iadd, 1) := by decide +kernel
theorem d_D_worthOf_28 : decode b_D_worthOf 28 = .ok (.istore_n 2, 1) := by decide +kernel
theorem d_D_worthOf_29 : decode b_D_worthOf 29 = .ok (.iinc 3 1, 3) := by decide +kernel
theorem d_D_worthOf_32 : decode b_D_worthOf 32 = .ok (.goto (-28), 3) := by decide +kernel
theorem d_D_worthOf_35 : decode b_D_worthOf 35 = .ok (.iload_n 2, 1) := by decide +kernel
theorem d_D_worthOf_36 : decode b_D_worthOf 36 = .ok (.ireturn, 1) := by decide +kernel
abbrev b_D_clayOf : ByteArray := prog_1_method_48_code
def y_D_clayOf : MethodName := ⟨R_D, "clayOf", "(I)I"⟩
theorem mc_D_clayOf : Cond.code y_D_clayOf b_D_clayOf 4 (Option.some .int) ∈ lw_use := g_use (List.mem_of_getElem? (i := 248) (by decide +kernel)) rfl
theorem d_D_clayOf_0 : decode b_D_clayOf 0 = .ok (.iconst 0, 1) := by decide +kernel
theorem d_D_clayOf_1 : decode b_D_clayOf 1 = .ok (.istore_n 2, 1) := by decide +kernel
theorem d_D_clayOf_2 : decode b_D_clayOf 2 = .ok (.iconst 0, 1) := by decide +kernel
theorem d_D_clayOf_3 : decode b_D_clayOf 3 = .ok (.istore_n 3, 1) := by decide +kernel
theorem d_D_clayOf_4 : decode b_D_clayOf 4 = .ok (.iload_n 3, 1) := by decide +kernel
theorem d_D_clayOf_5 : decode b_D_clayOf 5 = .ok (.aload_n 0, 1) := by decide +kernel
theorem d_D_clayOf_6 : decode b_D_clayOf 6 = .ok (.getfield 69, 3) := by decide +kernel
theorem d_D_clayOf_9 : decode b_D_clayOf 9 = .ok (.if_icmp .ge 29, 3) := by decide +kernel
theorem d_D_clayOf_12 : decode b_D_clayOf 12 = .ok (.iload_n 1, 1) := by decide +kernel
theorem d_D_clayOf_13 : decode b_D_clayOf 13 = .ok (.iload_n 3, 1) := by decide +kernel
theorem d_D_clayOf_14 : decode b_D_clayOf 14 = .ok (.invokestatic 150, 3) := by decide +kernel
theorem d_D_clayOf_17 : decode b_D_clayOf 17 = .ok (.ifCond .eq 15, 3) := by decide +kernel
theorem d_D_clayOf_20 : decode b_D_clayOf 20 = .ok (.iload_n 2, 1) := by decide +kernel
theorem d_D_clayOf_21 : decode b_D_clayOf 21 = .ok (.aload_n 0, 1) := by decide +kernel
theorem d_D_clayOf_22 : decode b_D_clayOf 22 = .ok (.getfield 29, 3) := by decide +kernel
theorem d_D_clayOf_25 : decode b_D_clayOf 25 = .ok (.getfield 120, 3) := by decide +kernel
theorem d_D_clayOf_28 : decode b_D_clayOf 28 = .ok (.iload_n 3, 1) := by decide +kernel
theorem d_D_clayOf_29 : decode b_D_clayOf 29 = .ok (.iaload, 1) := by decide +kernel
theorem d_D_clayOf_30 : decode b_D_clayOf 30 = .ok (.iadd, 1) := by decide +kernel
theorem d_D_clayOf_31 : decode b_D_clayOf 31 = .ok (.istore_n 2, 1) := by decide +kernel
theorem d_D_clayOf_32 : decode b_D_clayOf 32 = .ok (.iinc 3 1, 3) := by decide +kernel
theorem d_D_clayOf_35 : decode b_D_clayOf 35 = .ok (.goto (-31), 3) := by decide +kernel
theorem d_D_clayOf_38 : decode b_D_clayOf 38 = .ok (.iload_n 2, 1) := by decide +kernel
theorem d_D_clayOf_39 : decode b_D_clayOf 39 = .ok (.ireturn, 1) := by decide +kernel
abbrev b_D_lackOf : ByteArray := prog_1_method_49_code
def y_D_lackOf : MethodName := ⟨R_D, "lackOf", "(II)I"⟩
theorem mc_D_lackOf : Cond.code y_D_lackOf b_D_lackOf 5 (Option.some .int) ∈ lw_use := g_use (List.mem_of_getElem? (i := 354) (by decide +kernel)) rfl
theorem d_D_lackOf_0 : decode b_D_lackOf 0 = .ok (.iconst 0, 1) := by decide +kernel
theorem d_D_lackOf_1 : decode b_D_lackOf 1 = .ok (.istore_n 3, 1) := by decide +kernel
theorem d_D_lackOf_2 : decode b_D_lackOf 2 = .ok (.iconst 0, 1) := by decide +kernel
theorem d_D_lackOf_3 : decode b_D_lackOf 3 = .ok (.istore 4, 2) := by decide +kernel
theorem d_D_lackOf_5 : decode b_D_lackOf 5 = .ok (.iload 4, 2) := by decide +kernel
theorem d_D_lackOf_7 : decode b_D_lackOf 7 = .ok (.aload_n 0, 1) := by decide +kernel
theorem d_D_lackOf_8 : decode b_D_lackOf 8 = .ok (.getfield 69, 3) := by decide +kernel
theorem d_D_lackOf_11 : decode b_D_lackOf 11 = .ok (.if_icmp .ge 43, 3) := by decide +kernel
theorem d_D_lackOf_14 : decode b_D_lackOf 14 = .ok (.iload_n 1, 1) := by decide +kernel
theorem d_D_lackOf_15 : decode b_D_lackOf 15 = .ok (.iload 4, 2) := by decide +kernel
theorem d_D_lackOf_17 : decode b_D_lackOf 17 = .ok (.invokestatic 150, 3) := by decide +kernel
theorem d_D_lackOf_20 : decode b_D_lackOf 20 = .ok (.ifCond .eq 28, 3) := by decide +kernel
theorem d_D_lackOf_23 : decode b_D_lackOf 23 = .ok (.iload_n 3, 1) := by decide +kernel
theorem d_D_lackOf_24 : decode b_D_lackOf 24 = .ok (.iload_n 2, 1) := by decide +kernel
theorem d_D_lackOf_25 : decode b_D_lackOf 25 = .ok (.aload_n 0, 1) := by decide +kernel
theorem d_D_lackOf_26 : decode b_D_lackOf 26 = .ok (.iload 4, 2) := by decide +kernel
theorem d_D_lackOf_28 : decode b_D_lackOf 28 = .ok (.aload_n 0, 1) := by decide +kernel
theorem d_D_lackOf_29 : decode b_D_lackOf 29 = .ok (.getfield 29, 3) := by decide +kernel
theorem d_D_lackOf_32 : decode b_D_lackOf 32 = .ok (.getfield 117, 3) := by decide +kernel
theorem d_D_lackOf_35 : decode b_D_lackOf 35 = .ok (.iload 4, 2) := by decide +kernel
theorem d_D_lackOf_37 : decode b_D_lackOf 37 = .ok (.iaload, 1) := by decide +kernel
theorem d_D_lackOf_38 : decode b_D_lackOf 38 = .ok (.invokevirtual 126, 3) := by decide +kernel
theorem d_D_lackOf_41 : decode b_D_lackOf 41 = .ok (.isub, 1) := by decide +kernel
theorem d_D_lackOf_42 : decode b_D_lackOf 42 = .ok (.iconst 0, 1) := by decide +kernel
theorem d_D_lackOf_43 : decode b_D_lackOf 43 = .ok (.invokestatic 227, 3) := by decide +kernel
theorem d_D_lackOf_46 : decode b_D_lackOf 46 = .ok (.iadd, 1) := by decide +kernel
theorem d_D_lackOf_47 : decode b_D_lackOf 47 = .ok (.istore_n 3, 1) := by decide +kernel
theorem d_D_lackOf_48 : decode b_D_lackOf 48 = .ok (.iinc 4 1, 3) := by decide +kernel
theorem d_D_lackOf_51 : decode b_D_lackOf 51 = .ok (.goto (-46), 3) := by decide +kernel
theorem d_D_lackOf_54 : decode b_D_lackOf 54 = .ok (.iload_n 3, 1) := by decide +kernel
theorem d_D_lackOf_55 : decode b_D_lackOf 55 = .ok (.ireturn, 1) := by decide +kernel
abbrev b_D_reckonSets : ByteArray := prog_1_method_50_code
def y_D_reckonSets : MethodName := ⟨R_D, "reckonSets", "(I)V"⟩
theorem mc_D_reckonSets : Cond.code y_D_reckonSets b_D_reckonSets 5 none ∈ lw_use := g_use (List.mem_of_getElem? (i := 362) (by decide +kernel)) rfl
theorem d_D_reckonSets_0 : decode b_D_reckonSets 0 = .ok (.aload_n 0, 1) := by decide +kernel
theorem d_D_reckonSets_1 : decode b_D_reckonSets 1 = .ok (.invokevirtual 107, 3) := by decide +kernel
theorem d_D_reckonSets_4 : decode b_D_reckonSets 4 = .ok (.aload_n 0, 1) := by decide +kernel
theorem d_D_reckonSets_5 : decode b_D_reckonSets 5 = .ok (.iload_n 1, 1) := by decide +kernel
theorem d_D_reckonSets_6 : decode b_D_reckonSets 6 = .ok (.invokevirtual 161, 3) := by decide +kernel
theorem d_D_reckonSets_9 : decode b_D_reckonSets 9 = .ok (.iconst (-1), 1) := by decide +kernel
theorem d_D_reckonSets_10 : decode b_D_reckonSets 10 = .ok (.ixor, 1) := by decide +kernel
theorem d_D_reckonSets_11 : decode b_D_reckonSets 11 = .ok (.iand, 1) := by decide +kernel
theorem d_D_reckonSets_12 : decode b_D_reckonSets 12 = .ok (.istore_n 2, 1) := by decide +kernel
theorem d_D_reckonSets_13 : decode b_D_reckonSets 13 = .ok (.iconst 0, 1) := by decide +kernel
theorem d_D_reckonSets_14 : decode b_D_reckonSets 14 = .ok (.istore_n 3, 1) := by decide +kernel
theorem d_D_reckonSets_15 : decode b_D_reckonSets 15 = .ok (.iload_n 3, 1) := by decide +kernel
theorem d_D_reckonSets_16 : decode b_D_reckonSets 16 = .ok (.aload_n 0, 1) := by decide +kernel
theorem d_D_reckonSets_17 : decode b_D_reckonSets 17 = .ok (.invokevirtual 107, 3) := by decide +kernel
theorem d_D_reckonSets_20 : decode b_D_reckonSets 20 = .ok (.if_icmp .gt 67, 3) := by decide +kernel
theorem d_D_reckonSets_23 : decode b_D_reckonSets 23 = .ok (.iload_n 3, 1) := by decide +kernel
theorem d_D_reckonSets_24 : decode b_D_reckonSets 24 = .ok (.iload_n 2, 1) := by decide +kernel
theorem d_D_reckonSets_25 : decode b_D_reckonSets 25 = .ok (.iand, 1) := by decide +kernel
theorem d_D_reckonSets_26 : decode b_D_reckonSets 26 = .ok (.iload_n 2, 1) := by decide +kernel
theorem d_D_reckonSets_27 : decode b_D_reckonSets 27 = .ok (.if_icmp .ne 7, 3) := by decide +kernel
theorem d_D_reckonSets_30 : decode b_D_reckonSets 30 = .ok (.iconst 1, 1) := by decide +kernel
theorem d_D_reckonSets_31 : decode b_D_reckonSets 31 = .ok (.goto 4, 3) := by decide +kernel
theorem d_D_reckonSets_34 : decode b_D_reckonSets 34 = .ok (.iconst 0, 1) := by decide +kernel
theorem d_D_reckonSets_35 : decode b_D_reckonSets 35 = .ok (.istore 4, 2) := by decide +kernel
theorem d_D_reckonSets_37 : decode b_D_reckonSets 37 = .ok (.aload_n 0, 1) := by decide +kernel
theorem d_D_reckonSets_38 : decode b_D_reckonSets 38 = .ok (.getfield 52, 3) := by decide +kernel
theorem d_D_reckonSets_41 : decode b_D_reckonSets 41 = .ok (.iload_n 3, 1) := by decide +kernel
theorem d_D_reckonSets_42 : decode b_D_reckonSets 42 = .ok (.iload 4, 2) := by decide +kernel
theorem d_D_reckonSets_44 : decode b_D_reckonSets 44 = .ok (.ifCond .eq 12, 3) := by decide +kernel
theorem d_D_reckonSets_47 : decode b_D_reckonSets 47 = .ok (.aload_n 0, 1) := by decide +kernel
theorem d_D_reckonSets_48 : decode b_D_reckonSets 48 = .ok (.iload_n 3, 1) := by decide +kernel
theorem d_D_reckonSets_49 : decode b_D_reckonSets 49 = .ok (.iload_n 1, 1) := by decide +kernel
theorem d_D_reckonSets_50 : decode b_D_reckonSets 50 = .ok (.invokevirtual 164, 3) := by decide +kernel
theorem d_D_reckonSets_53 : decode b_D_reckonSets 53 = .ok (.goto 5, 3) := by decide +kernel
theorem d_D_reckonSets_56 : decode b_D_reckonSets 56 = .ok (.ldc 236, 2) := by decide +kernel
theorem d_D_reckonSets_58 : decode b_D_reckonSets 58 = .ok (.iastore, 1) := by decide +kernel
theorem d_D_reckonSets_59 : decode b_D_reckonSets 59 = .ok (.aload_n 0, 1) := by decide +kernel
theorem d_D_reckonSets_60 : decode b_D_reckonSets 60 = .ok (.getfield 49, 3) := by decide +kernel
theorem d_D_reckonSets_63 : decode b_D_reckonSets 63 = .ok (.iload_n 3, 1) := by decide +kernel
theorem d_D_reckonSets_64 : decode b_D_reckonSets 64 = .ok (.aload_n 0, 1) := by decide +kernel
theorem d_D_reckonSets_65 : decode b_D_reckonSets 65 = .ok (.aload_n 0, 1) := by decide +kernel
theorem d_D_reckonSets_66 : decode b_D_reckonSets 66 = .ok (.aload_n 0, 1) := by decide +kernel
theorem d_D_reckonSets_67 : decode b_D_reckonSets 67 = .ok (.invokevirtual 107, 3) := by decide +kernel
theorem d_D_reckonSets_70 : decode b_D_reckonSets 70 = .ok (.iload_n 3, 1) := by decide +kernel
theorem d_D_reckonSets_71 : decode b_D_reckonSets 71 = .ok (.iconst (-1), 1) := by decide +kernel
theorem d_D_reckonSets_72 : decode b_D_reckonSets 72 = .ok (.ixor, 1) := by decide +kernel
theorem d_D_reckonSets_73 : decode b_D_reckonSets 73 = .ok (.iand, 1) := by decide +kernel
theorem d_D_reckonSets_74 : decode b_D_reckonSets 74 = .ok (.invokevirtual 144, 3) := by decide +kernel
theorem d_D_reckonSets_77 : decode b_D_reckonSets 77 = .ok (.invokevirtual 147, 3) := by decide +kernel
theorem d_D_reckonSets_80 : decode b_D_reckonSets 80 = .ok (.iastore, 1) := by decide +kernel
theorem d_D_reckonSets_81 : decode b_D_reckonSets 81 = .ok (.iinc 3 1, 3) := by decide +kernel
theorem d_D_reckonSets_84 : decode b_D_reckonSets 84 = .ok (.goto (-69), 3) := by decide +kernel
theorem d_D_reckonSets_87 : decode b_D_reckonSets 87 = .ok (.return_, 1) := by decide +kernel
abbrev b_D_bestSet : ByteArray := prog_1_method_51_code
def y_D_bestSet : MethodName := ⟨R_D, "bestSet", "(I)I"⟩
theorem mc_D_bestSet : Cond.code y_D_bestSet b_D_bestSet 5 (Option.some .int) ∈ lw_use := g_use (List.mem_of_getElem? (i := 367) (by decide +kernel)) rfl
theorem d_D_bestSet_0 : decode b_D_bestSet 0 = .ok (.aload_n 0, 1) := by decide +kernel
theorem d_D_bestSet_1 : decode b_D_bestSet 1 = .ok (.invokevirtual 107, 3) := by decide +kernel
theorem d_D_bestSet_4 : decode b_D_bestSet 4 = .ok (.istore_n 2, 1) := by decide +kernel
theorem d_D_bestSet_5 : decode b_D_bestSet 5 = .ok (.iconst 0, 1) := by decide +kernel
theorem d_D_bestSet_6 : decode b_D_bestSet 6 = .ok (.istore_n 3, 1) := by decide +kernel
theorem d_D_bestSet_7 : decode b_D_bestSet 7 = .ok (.iconst 0, 1) := by decide +kernel
theorem d_D_bestSet_8 : decode b_D_bestSet 8 = .ok (.istore 4, 2) := by decide +kernel
theorem d_D_bestSet_10 : decode b_D_bestSet 10 = .ok (.iload 4, 2) := by decide +kernel
theorem d_D_bestSet_12 : decode b_D_bestSet 12 = .ok (.aload_n 0, 1) := by decide +kernel
theorem d_D_bestSet_13 : decode b_D_bestSet 13 = .ok (.invokevirtual 107, 3) := by decide +kernel
theorem d_D_bestSet_16 : decode b_D_bestSet 16 = .ok (.if_icmp .gt 39, 3) := by decide +kernel
theorem d_D_bestSet_19 : decode b_D_bestSet 19 = .ok (.aload_n 0, 1) := by decide +kernel
theorem d_D_bestSet_20 : decode b_D_bestSet 20 = .ok (.getfield 52, 3) := by decide +kernel
theorem d_D_bestSet_23 : decode b_D_bestSet 23 = .ok (.iload 4, 2) := by decide +kernel
theorem d_D_bestSet_25 : decode b_D_bestSet 25 = .ok (.iaload, 1) := by decide +kernel
theorem d_D_bestSet_26 : decode b_D_bestSet 26 = .ok (.iload_n 1, 1) := by decide +kernel
theorem d_D_bestSet_27 : decode b_D_bestSet 27 = .ok (.if_icmp .gt 22, 3) := by decide +kernel
theorem d_D_bestSet_30 : decode b_D_bestSet 30 = .ok (.iload_n 3, 1) := by decide +kernel
theorem d_D_bestSet_31 : decode b_D_bestSet 31 = .ok (.ifCond .eq 13, 3) := by decide +kernel
theorem d_D_bestSet_34 : decode b_D_bestSet 34 = .ok (.aload_n 0, 1) := by decide +kernel
theorem d_D_bestSet_35 : decode b_D_bestSet 35 = .ok (.iload 4, 2) := by decide +kernel
theorem d_D_bestSet_37 : decode b_D_bestSet 37 = .ok (.iload_n 2, 1) := by decide +kernel
theorem d_D_bestSet_38 : decode b_D_bestSet 38 = .ok (.invokevirtual 237, 3) := by decide +kernel
theorem d_D_bestSet_41 : decode b_D_bestSet 41 = .ok (.ifCond .eq 8, 3) := by decide +kernel
theorem d_D_bestSet_44 : decode b_D_bestSet 44 = .ok (.iload 4, 2) := by decide +kernel
theorem d_D_bestSet_46 : decode b_D_bestSet 46 = .ok (.istore_n 2, 1) := by decide +kernel
theorem d_D_bestSet_47 : decode b_D_bestSet 47 = .ok (.iconst 1, 1) := by decide +kernel
theorem d_D_bestSet_48 : decode b_D_bestSet 48 = .ok (.istore_n 3, 1) := by decide +kernel
theorem d_D_bestSet_49 : decode b_D_bestSet 49 = .ok (.iinc 4 1, 3) := by decide +kernel
theorem d_D_bestSet_52 : decode b_D_bestSet 52 = .ok (.goto (-42), 3) := by decide +kernel
theorem d_D_bestSet_55 : decode b_D_bestSet 55 = .ok (.iload_n 2, 1) := by decide +kernel
theorem d_D_bestSet_56 : decode b_D_bestSet 56 = .ok (.ireturn, 1) := by decide +kernel
abbrev b_D_isBetter : ByteArray := prog_1_method_52_code
def y_D_isBetter : MethodName := ⟨R_D, "isBetter", "(II)Z"⟩
theorem mc_D_isBetter : Cond.code y_D_isBetter b_D_isBetter 3 (Option.some .boolean) ∈ lw_use := g_use (List.mem_of_getElem? (i := 371) (by decide +kernel)) rfl
theorem d_D_isBetter_0 : decode b_D_isBetter 0 = .ok (.aload_n 0, 1) := by decide +kernel
theorem d_D_isBetter_1 : decode b_D_isBetter 1 = .ok (.getfield 49, 3) := by decide +kernel
theorem d_D_isBetter_4 : decode b_D_isBetter 4 = .ok (.iload_n 1, 1) := by decide +kernel
theorem d_D_isBetter_5 : decode b_D_isBetter 5 = .ok (.iaload, 1) := by decide +kernel
theorem d_D_isBetter_6 : decode b_D_isBetter 6 = .ok (.aload_n 0, 1) := by decide +kernel
theorem d_D_isBetter_7 : decode b_D_isBetter 7 = .ok (.getfield 49, 3) := by decide +kernel
theorem d_D_isBetter_10 : decode b_D_isBetter 10 = .ok (.iload_n 2, 1) := by decide +kernel
theorem d_D_isBetter_11 : decode b_D_isBetter 11 = .ok (.iaload, 1) := by decide +kernel
theorem d_D_isBetter_12 : decode b_D_isBetter 12 = .ok (.if_icmp .eq 24, 3) := by decide +kernel
theorem d_D_isBetter_15 : decode b_D_isBetter 15 = .ok (.aload_n 0, 1) := by decide +kernel
theorem d_D_isBetter_16 : decode b_D_isBetter 16 = .ok (.getfield 49, 3) := by decide +kernel
theorem d_D_isBetter_19 : decode b_D_isBetter 19 = .ok (.iload_n 1, 1) := by decide +kernel
theorem d_D_isBetter_20 : decode b_D_isBetter 20 = .ok (.iaload, 1) := by decide +kernel
theorem d_D_isBetter_21 : decode b_D_isBetter 21 = .ok (.aload_n 0, 1) := by decide +kernel
theorem d_D_isBetter_22 : decode b_D_isBetter 22 = .ok (.getfield 49, 3) := by decide +kernel
theorem d_D_isBetter_25 : decode b_D_isBetter 25 = .ok (.iload_n 2, 1) := by decide +kernel
theorem d_D_isBetter_26 : decode b_D_isBetter 26 = .ok (.iaload, 1) := by decide +kernel
theorem d_D_isBetter_27 : decode b_D_isBetter 27 = .ok (.if_icmp .ge 7, 3) := by decide +kernel
theorem d_D_isBetter_30 : decode b_D_isBetter 30 = .ok (.iconst 1, 1) := by decide +kernel
theorem d_D_isBetter_31 : decode b_D_isBetter 31 = .ok (.goto 4, 3) := by decide +kernel
theorem d_D_isBetter_34 : decode b_D_isBetter 34 = .ok (.iconst 0, 1) := by decide +kernel
theorem d_D_isBetter_35 : decode b_D_isBetter 35 = .ok (.ireturn, 1) := by decide +kernel
theorem d_D_isBetter_36 : decode b_D_isBetter 36 = .ok (.aload_n 0, 1) := by decide +kernel
theorem d_D_isBetter_37 : decode b_D_isBetter 37 = .ok (.getfield 52, 3) := by decide +kernel
theorem d_D_isBetter_40 : decode b_D_isBetter 40 = .ok (.iload_n 1, 1) := by decide +kernel
theorem d_D_isBetter_41 : decode b_D_isBetter 41 = .ok (.iaload, 1) := by decide +kernel
theorem d_D_isBetter_42 : decode b_D_isBetter 42 = .ok (.aload_n 0, 1) := by decide +kernel
theorem d_D_isBetter_43 : decode b_D_isBetter 43 = .ok (.getfield 52, 3) := by decide +kernel
theorem d_D_isBetter_46 : decode b_D_isBetter 46 = .ok (.iload_n 2, 1) := by decide +kernel
theorem d_D_isBetter_47 : decode b_D_isBetter 47 = .ok (.iaload, 1) := by decide +kernel
theorem d_D_isBetter_48 : decode b_D_isBetter 48 = .ok (.if_icmp .ge 7, 3) := by decide +kernel
theorem d_D_isBetter_51 : decode b_D_isBetter 51 = .ok (.iconst 1, 1) := by decide +kernel
theorem d_D_isBetter_52 : decode b_D_isBetter 52 = .ok (.goto 4, 3) := by decide +kernel
theorem d_D_isBetter_55 : decode b_D_isBetter 55 = .ok (.iconst 0, 1) := by decide +kernel
theorem d_D_isBetter_56 : decode b_D_isBetter 56 = .ok (.ireturn, 1) := by decide +kernel
abbrev b_D_readStorms : ByteArray := prog_1_method_53_code
def y_D_readStorms : MethodName := ⟨R_D, "readStorms", "(IJ)Z"⟩
theorem mc_D_readStorms : Cond.code y_D_readStorms b_D_readStorms 7 (Option.some .boolean) ∈ lw_use := g_use (List.mem_of_getElem? (i := 383) (by decide +kernel)) rfl
theorem d_D_readStorms_0 : decode b_D_readStorms 0 = .ok (.lload_n 2, 1) := by decide +kernel
theorem d_D_readStorms_1 : decode b_D_readStorms 1 = .ok (.lconst 0, 1) := by decide +kernel
theorem d_D_readStorms_2 : decode b_D_readStorms 2 = .ok (.lcmp, 1) := by decide +kernel
theorem d_D_readStorms_3 : decode b_D_readStorms 3 = .ok (.ifCond .ge 5, 3) := by decide +kernel
theorem d_D_readStorms_6 : decode b_D_readStorms 6 = .ok (.iconst 0, 1) := by decide +kernel
theorem d_D_readStorms_7 : decode b_D_readStorms 7 = .ok (.ireturn, 1) := by decide +kernel
theorem d_D_readStorms_8 : decode b_D_readStorms 8 = .ok (.lload_n 2, 1) := by decide +kernel
theorem d_D_readStorms_9 : decode b_D_readStorms 9 = .ok (.lstore 4, 2) := by decide +kernel
theorem d_D_readStorms_11 : decode b_D_readStorms 11 = .ok (.iload_n 1, 1) := by decide +kernel
theorem d_D_readStorms_12 : decode b_D_readStorms 12 = .ok (.iconst 1, 1) := by decide +kernel
theorem d_D_readStorms_13 : decode b_D_readStorms 13 = .ok (.isub, 1) := by decide +kernel
theorem d_D_readStorms_14 : decode b_D_readStorms 14 = .ok (.istore 6, 2) := by decide +kernel
theorem d_D_readStorms_16 : decode b_D_readStorms 16 = .ok (.iload 6, 2) := by decide +kernel
theorem d_D_readStorms_18 : decode b_D_readStorms 18 = .ok (.ifCond .lt 46, 3) := by decide +kernel
theorem d_D_readStorms_21 : decode b_D_readStorms 21 = .ok (.aload_n 0, 1) := by decide +kernel
theorem d_D_readStorms_22 : decode b_D_readStorms 22 = .ok (.getfield 43, 3) := by decide +kernel
theorem d_D_readStorms_25 : decode b_D_readStorms 25 = .ok (.iload 6, 2) := by decide +kernel
theorem d_D_readStorms_27 : decode b_D_readStorms 27 = .ok (.lload 4, 2) := by decide +kernel
theorem d_D_readStorms_29 : decode b_D_readStorms 29 = .ok (.ldc2_w 240, 3) := by decide +kernel
theorem d_D_readStorms_32 : decode b_D_readStorms 32 = .ok (.lrem, 1) := by decide +kernel
theorem d_D_readStorms_33 : decode b_D_readStorms 33 = .ok (.l2i, 1) := by decide +kernel
theorem d_D_readStorms_34 : decode b_D_readStorms 34 = .ok (.iastore, 1) := by decide +kernel
theorem d_D_readStorms_35 : decode b_D_readStorms 35 = .ok (.lload 4, 2) := by decide +kernel
theorem d_D_readStorms_37 : decode b_D_readStorms 37 = .ok (.ldc2_w 240, 3) := by decide +kernel
theorem d_D_readStorms_40 : decode b_D_readStorms 40 = .ok (.ldiv, 1) := by decide +kernel
theorem d_D_readStorms_41 : decode b_D_readStorms 41 = .ok (.lstore 4, 2) := by decide +kernel
theorem d_D_readStorms_43 : decode b_D_readStorms 43 = .ok (.aload_n 0, 1) := by decide +kernel
theorem d_D_readStorms_44 : decode b_D_readStorms 44 = .ok (.getfield 43, 3) := by decide +kernel
theorem d_D_readStorms_47 : decode b_D_readStorms 47 = .ok (.iload 6, 2) := by decide +kernel
theorem d_D_readStorms_49 : decode b_D_readStorms 49 = .ok (.iaload, 1) := by decide +kernel
theorem d_D_readStorms_50 : decode b_D_readStorms 50 = .ok (.invokestatic 134, 3) := by decide +kernel
theorem d_D_readStorms_53 : decode b_D_readStorms 53 = .ok (.ifCond .ne 5, 3) := by decide +kernel
theorem d_D_readStorms_56 : decode b_D_readStorms 56 = .ok (.iconst 0, 1) := by decide +kernel
theorem d_D_readStorms_57 : decode b_D_readStorms 57 = .ok (.ireturn, 1) := by decide +kernel
theorem d_D_readStorms_58 : decode b_D_readStorms 58 = .ok (.iinc 6 (-1), 3) := by decide +kernel
theorem d_D_readStorms_61 : decode b_D_readStorms 61 = .ok (.goto (-45), 3) := by decide +kernel
theorem d_D_readStorms_64 : decode b_D_readStorms 64 = .ok (.lload 4, 2) := by decide +kernel
theorem d_D_readStorms_66 : decode b_D_readStorms 66 = .ok (.lconst 0, 1) := by decide +kernel
theorem d_D_readStorms_67 : decode b_D_readStorms 67 = .ok (.lcmp, 1) := by decide +kernel
theorem d_D_readStorms_68 : decode b_D_readStorms 68 = .ok (.ifCond .ne 7, 3) := by decide +kernel
theorem d_D_readStorms_71 : decode b_D_readStorms 71 = .ok (.iconst 1, 1) := by decide +kernel
theorem d_D_readStorms_72 : decode b_D_readStorms 72 = .ok (.goto 4, 3) := by decide +kernel
theorem d_D_readStorms_75 : decode b_D_readStorms 75 = .ok (.iconst 0, 1) := by decide +kernel
theorem d_D_readStorms_76 : decode b_D_readStorms 76 = .ok (.ireturn, 1) := by decide +kernel
abbrev b_D_netOf : ByteArray := prog_1_method_54_code
def y_D_netOf : MethodName := ⟨R_D, "netOf", "(I)I"⟩
theorem mc_D_netOf : Cond.code y_D_netOf b_D_netOf 4 (Option.some .int) ∈ lw_use := g_use (List.mem_of_getElem? (i := 397) (by decide +kernel)) rfl
theorem d_D_netOf_0 : decode b_D_netOf 0 = .ok (.iconst 0, 1) := by decide +kernel
theorem d_D_netOf_1 : decode b_D_netOf 1 = .ok (.istore_n 2, 1) := by decide +kernel
theorem d_D_netOf_2 : decode b_D_netOf 2 = .ok (.iconst 0, 1) := by decide +kernel
theorem d_D_netOf_3 : decode b_D_netOf 3 = .ok (.istore_n 3, 1) := by decide +kernel
theorem d_D_netOf_4 : decode b_D_netOf 4 = .ok (.iload_n 3, 1) := by decide +kernel
theorem d_D_netOf_5 : decode b_D_netOf 5 = .ok (.aload_n 0, 1) := by decide +kernel
theorem d_D_netOf_6 : decode b_D_netOf 6 = .ok (.getfield 69, 3) := by decide +kernel
theorem d_D_netOf_9 : decode b_D_netOf 9 = .ok (.if_icmp .ge 35, 3) := by decide +kernel
theorem d_D_netOf_12 : decode b_D_netOf 12 = .ok (.iload_n 2, 1) := by decide +kernel
theorem d_D_netOf_13 : decode b_D_netOf 13 = .ok (.aload_n 0, 1) := by decide +kernel
theorem d_D_netOf_14 : decode b_D_netOf 14 = .ok (.getfield 29, 3) := by decide +kernel
theorem d_D_netOf_17 : decode b_D_netOf 17 = .ok (.getfield 130, 3) := by decide +kernel
theorem d_D_netOf_20 : decode b_D_netOf 20 = .ok (.iload_n 3, 1) := by decide +kernel
theorem d_D_netOf_21 : decode b_D_netOf 21 = .ok (.aaload, 1) := by decide +kernel
theorem d_D_netOf_22 : decode b_D_netOf 22 = .ok (.iload_n 1, 1) := by decide +kernel
theorem d_D_netOf_23 : decode b_D_netOf 23 = .ok (.iaload, 1) := by decide +kernel
theorem d_D_netOf_24 : decode b_D_netOf 24 = .ok (.aload_n 0, 1) := by decide +kernel
theorem d_D_netOf_25 : decode b_D_netOf 25 = .ok (.getfield 29, 3) := by decide +kernel
theorem d_D_netOf_28 : decode b_D_netOf 28 = .ok (.getfield 130, 3) := by decide +kernel
theorem d_D_netOf_31 : decode b_D_netOf 31 = .ok (.iload_n 1, 1) := by decide +kernel
theorem d_D_netOf_32 : decode b_D_netOf 32 = .ok (.aaload, 1) := by decide +kernel
theorem d_D_netOf_33 : decode b_D_netOf 33 = .ok (.iload_n 3, 1) := by decide +kernel
theorem d_D_netOf_34 : decode b_D_netOf 34 = .ok (.iaload, 1) := by decide +kernel
theorem d_D_netOf_35 : decode b_D_netOf 35 = .ok (.isub, 1) := by decide +kernel
theorem d_D_netOf_36 : decode b_D_netOf 36 = .ok (.iadd, 1) := by decide +kernel
theorem d_D_netOf_37 : decode b_D_netOf 37 = .ok (.istore_n 2, 1) := by decide +kernel
theorem d_D_netOf_38 : decode b_D_netOf 38 = .ok (.iinc 3 1, 3) := by decide +kernel
theorem d_D_netOf_41 : decode b_D_netOf 41 = .ok (.goto (-37), 3) := by decide +kernel
theorem d_D_netOf_44 : decode b_D_netOf 44 = .ok (.iload_n 2, 1) := by decide +kernel
theorem d_D_netOf_45 : decode b_D_netOf 45 = .ok (.ireturn, 1) := by decide +kernel
abbrev b_D_mostCuts : ByteArray := prog_1_method_55_code
def y_D_mostCuts : MethodName := ⟨R_D, "mostCuts", "(I)I"⟩
theorem mc_D_mostCuts : Cond.code y_D_mostCuts b_D_mostCuts 6 (Option.some .int) ∈ lw_use := g_use (List.mem_of_getElem? (i := 406) (by decide +kernel)) rfl
theorem d_D_mostCuts_0 : decode b_D_mostCuts 0 = .ok (.iconst 0, 1) := by decide +kernel
theorem d_D_mostCuts_1 : decode b_D_mostCuts 1 = .ok (.istore_n 2, 1) := by decide +kernel
theorem d_D_mostCuts_2 : decode b_D_mostCuts 2 = .ok (.iload_n 2, 1) := by decide +kernel
theorem d_D_mostCuts_3 : decode b_D_mostCuts 3 = .ok (.iload_n 1, 1) := by decide +kernel
theorem d_D_mostCuts_4 : decode b_D_mostCuts 4 = .ok (.if_icmp .gt 93, 3) := by decide +kernel
theorem d_D_mostCuts_7 : decode b_D_mostCuts 7 = .ok (.iconst 0, 1) := by decide +kernel
theorem d_D_mostCuts_8 : decode b_D_mostCuts 8 = .ok (.istore_n 3, 1) := by decide +kernel
theorem d_D_mostCuts_9 : decode b_D_mostCuts 9 = .ok (.iconst 0, 1) := by decide +kernel
theorem d_D_mostCuts_10 : decode b_D_mostCuts 10 = .ok (.istore 4, 2) := by decide +kernel
theorem d_D_mostCuts_12 : decode b_D_mostCuts 12 = .ok (.iconst 0, 1) := by decide +kernel
theorem d_D_mostCuts_13 : decode b_D_mostCuts 13 = .ok (.istore 5, 2) := by decide +kernel
theorem d_D_mostCuts_15 : decode b_D_mostCuts 15 = .ok (.iload 5, 2) := by decide +kernel
theorem d_D_mostCuts_17 : decode b_D_mostCuts 17 = .ok (.aload_n 0, 1) := by decide +kernel
theorem d_D_mostCuts_18 : decode b_D_mostCuts 18 = .ok (.getfield 69, 3) := by decide +kernel
theorem d_D_mostCuts_21 : decode b_D_mostCuts 21 = .ok (.if_icmp .ge 48, 3) := by decide +kernel
theorem d_D_mostCuts_24 : decode b_D_mostCuts 24 = .ok (.iload_n 2, 1) := by decide +kernel
theorem d_D_mostCuts_25 : decode b_D_mostCuts 25 = .ok (.iload 5, 2) := by decide +kernel
theorem d_D_mostCuts_27 : decode b_D_mostCuts 27 = .ok (.invokestatic 150, 3) := by decide +kernel
theorem d_D_mostCuts_30 : decode b_D_mostCuts 30 = .ok (.ifCond .eq 33, 3) := by decide +kernel
theorem d_D_mostCuts_33 : decode b_D_mostCuts 33 = .ok (.iload_n 3, 1) := by decide +kernel
theorem d_D_mostCuts_34 : decode b_D_mostCuts 34 = .ok (.aload_n 0, 1) := by decide +kernel
theorem d_D_mostCuts_35 : decode b_D_mostCuts 35 = .ok (.getfield 55, 3) := by decide +kernel
theorem d_D_mostCuts_38 : decode b_D_mostCuts 38 = .ok (.iload_n 2, 1) := by decide +kernel
theorem d_D_mostCuts_39 : decode b_D_mostCuts 39 = .ok (.iload 5, 2) := by decide +kernel
theorem d_D_mostCuts_41 : decode b_D_mostCuts 41 = .ok (.invokestatic 98, 3) := by decide +kernel
theorem d_D_mostCuts_44 : decode b_D_mostCuts 44 = .ok (.iconst (-1), 1) := by decide +kernel
theorem d_D_mostCuts_45 : decode b_D_mostCuts 45 = .ok (.ixor, 1) := by decide +kernel
theorem d_D_mostCuts_46 : decode b_D_mostCuts 46 = .ok (.iand, 1) := by decide +kernel
theorem d_D_mostCuts_47 : decode b_D_mostCuts 47 = .ok (.iaload, 1) := by decide +kernel
theorem d_D_mostCuts_48 : decode b_D_mostCuts 48 = .ok (.invokestatic 227, 3) := by decide +kernel
theorem d_D_mostCuts_51 : decode b_D_mostCuts 51 = .ok (.istore_n 3, 1) := by decide +kernel
theorem d_D_mostCuts_52 : decode b_D_mostCuts 52 = .ok (.iload 4, 2) := by decide +kernel
theorem d_D_mostCuts_54 : decode b_D_mostCuts 54 = .ok (.aload_n 0, 1) := by decide +kernel
theorem d_D_mostCuts_55 : decode b_D_mostCuts 55 = .ok (.iload 5, 2) := by decide +kernel
theorem d_D_mostCuts_57 : decode b_D_mostCuts 57 = .ok (.invokevirtual 181, 3) := by decide +kernel
theorem d_D_mostCuts_60 : decode b_D_mostCuts 60 = .ok (.iadd, 1) := by decide +kernel
theorem d_D_mostCuts_61 : decode b_D_mostCuts 61 = .ok (.istore 4, 2) := by decide +kernel
theorem d_D_mostCuts_63 : decode b_D_mostCuts 63 = .ok (.iinc 5 1, 3) := by decide +kernel
theorem d_D_mostCuts_66 : decode b_D_mostCuts 66 = .ok (.goto (-51), 3) := by decide +kernel
theorem d_D_mostCuts_69 : decode b_D_mostCuts 69 = .ok (.aload_n 0, 1) := by decide +kernel
theorem d_D_mostCuts_70 : decode b_D_mostCuts 70 = .ok (.getfield 55, 3) := by decide +kernel
theorem d_D_mostCuts_73 : decode b_D_mostCuts 73 = .ok (.iload_n 2, 1) := by decide +kernel
theorem d_D_mostCuts_74 : decode b_D_mostCuts 74 = .ok (.iload_n 2, 1) := by decide +kernel
theorem d_D_mostCuts_75 : decode b_D_mostCuts 75 = .ok (.ifCond .eq 14, 3) := by decide +kernel
theorem d_D_mostCuts_78 : decode b_D_mostCuts 78 = .ok (.iload 4, 2) := by decide +kernel
theorem d_D_mostCuts_80 : decode b_D_mostCuts 80 = .ok (.ifCond .ne 9, 3) := by decide +kernel
theorem d_D_mostCuts_83 : decode b_D_mostCuts 83 = .ok (.iload_n 3, 1) := by decide +kernel
theorem d_D_mostCuts_84 : decode b_D_mostCuts 84 = .ok (.iconst 1, 1) := by decide +kernel
theorem d_D_mostCuts_85 : decode b_D_mostCuts 85 = .ok (.iadd, 1) := by decide +kernel
theorem d_D_mostCuts_86 : decode b_D_mostCuts 86 = .ok (.goto 4, 3) := by decide +kernel
theorem d_D_mostCuts_89 : decode b_D_mostCuts 89 = .ok (.iload_n 3, 1) := by decide +kernel
theorem d_D_mostCuts_90 : decode b_D_mostCuts 90 = .ok (.iastore, 1) := by decide +kernel
theorem d_D_mostCuts_91 : decode b_D_mostCuts 91 = .ok (.iinc 2 1, 3) := by decide +kernel
theorem d_D_mostCuts_94 : decode b_D_mostCuts 94 = .ok (.goto (-92), 3) := by decide +kernel
theorem d_D_mostCuts_97 : decode b_D_mostCuts 97 = .ok (.aload_n 0, 1) := by decide +kernel
theorem d_D_mostCuts_98 : decode b_D_mostCuts 98 = .ok (.getfield 55, 3) := by decide +kernel
theorem d_D_mostCuts_101 : decode b_D_mostCuts 101 = .ok (.iload_n 1, 1) := by decide +kernel
theorem d_D_mostCuts_102 : decode b_D_mostCuts 102 = .ok (.iaload, 1) := by decide +kernel
theorem d_D_mostCuts_103 : decode b_D_mostCuts 103 = .ok (.ireturn, 1) := by decide +kernel
abbrev b_D_reckonGiven : ByteArray := prog_1_method_56_code
def y_D_reckonGiven : MethodName := ⟨R_D, "reckonGiven", "(II)V"⟩
theorem mc_D_reckonGiven : Cond.code y_D_reckonGiven b_D_reckonGiven 7 none ∈ lw_use := g_use (List.mem_of_getElem? (i := 426) (by decide +kernel)) rfl
theorem d_D_reckonGiven_0 : decode b_D_reckonGiven 0 = .ok (.aload_n 0, 1) := by decide +kernel
theorem d_D_reckonGiven_1 : decode b_D_reckonGiven 1 = .ok (.iload_n 2, 1) := by decide +kernel
theorem d_D_reckonGiven_2 : decode b_D_reckonGiven 2 = .ok (.invokevirtual 161, 3) := by decide +kernel
theorem d_D_reckonGiven_5 : decode b_D_reckonGiven 5 = .ok (.iload_n 1, 1) := by decide +kernel
theorem d_D_reckonGiven_6 : decode b_D_reckonGiven 6 = .ok (.invokestatic 98, 3) := by decide +kernel
theorem d_D_reckonGiven_9 : decode b_D_reckonGiven 9 = .ok (.iconst (-1), 1) := by decide +kernel
theorem d_D_reckonGiven_10 : decode b_D_reckonGiven 10 = .ok (.ixor, 1) := by decide +kernel
theorem d_D_reckonGiven_11 : decode b_D_reckonGiven 11 = .ok (.iand, 1) := by decide +kernel
theorem d_D_reckonGiven_12 : decode b_D_reckonGiven 12 = .ok (.istore_n 3, 1) := by decide +kernel
theorem d_D_reckonGiven_13 : decode b_D_reckonGiven 13 = .ok (.aload_n 0, 1) := by decide +kernel
theorem d_D_reckonGiven_14 : decode b_D_reckonGiven 14 = .ok (.iload_n 1, 1) := by decide +kernel
theorem d_D_reckonGiven_15 : decode b_D_reckonGiven 15 = .ok (.aload_n 0, 1) := by decide +kernel
theorem d_D_reckonGiven_16 : decode b_D_reckonGiven 16 = .ok (.getfield 29, 3) := by decide +kernel
theorem d_D_reckonGiven_19 : decode b_D_reckonGiven 19 = .ok (.getfield 117, 3) := by decide +kernel
theorem d_D_reckonGiven_22 : decode b_D_reckonGiven 22 = .ok (.iload_n 1, 1) := by decide +kernel
theorem d_D_reckonGiven_23 : decode b_D_reckonGiven 23 = .ok (.iaload, 1) := by decide +kernel
theorem d_D_reckonGiven_24 : decode b_D_reckonGiven 24 = .ok (.invokevirtual 126, 3) := by decide +kernel
theorem d_D_reckonGiven_27 : decode b_D_reckonGiven 27 = .ok (.istore 4, 2) := by decide +kernel
theorem d_D_reckonGiven_29 : decode b_D_reckonGiven 29 = .ok (.iconst 0, 1) := by decide +kernel
theorem d_D_reckonGiven_30 : decode b_D_reckonGiven 30 = .ok (.istore 5, 2) := by decide +kernel
theorem d_D_reckonGiven_32 : decode b_D_reckonGiven 32 = .ok (.iload 5, 2) := by decide +kernel
theorem d_D_reckonGiven_34 : decode b_D_reckonGiven 34 = .ok (.aload_n 0, 1) := by decide +kernel
theorem d_D_reckonGiven_35 : decode b_D_reckonGiven 35 = .ok (.getfield 46, 3) := by decide +kernel
theorem d_D_reckonGiven_38 : decode b_D_reckonGiven 38 = .ok (.arraylength, 1) := by decide +kernel
theorem d_D_reckonGiven_39 : decode b_D_reckonGiven 39 = .ok (.if_icmp .ge 43, 3) := by decide +kernel
theorem d_D_reckonGiven_42 : decode b_D_reckonGiven 42 = .ok (.iload_n 2, 1) := by decide +kernel
theorem d_D_reckonGiven_43 : decode b_D_reckonGiven 43 = .ok (.iload 4, 2) := by decide +kernel
theorem d_D_reckonGiven_45 : decode b_D_reckonGiven 45 = .ok (.iload 5, 2) := by decide +kernel
theorem d_D_reckonGiven_47 : decode b_D_reckonGiven 47 = .ok (.iadd, 1) := by decide +kernel
theorem d_D_reckonGiven_48 : decode b_D_reckonGiven 48 = .ok (.if_icmp .le 10, 3) := by decide +kernel
theorem d_D_reckonGiven_51 : decode b_D_reckonGiven 51 = .ok (.iload_n 1, 1) := by decide +kernel
theorem d_D_reckonGiven_52 : decode b_D_reckonGiven 52 = .ok (.invokestatic 98, 3) := by decide +kernel
theorem d_D_reckonGiven_55 : decode b_D_reckonGiven 55 = .ok (.goto 4, 3) := by decide +kernel
theorem d_D_reckonGiven_58 : decode b_D_reckonGiven 58 = .ok (.iconst 0, 1) := by decide +kernel
theorem d_D_reckonGiven_59 : decode b_D_reckonGiven 59 = .ok (.istore 6, 2) := by decide +kernel
theorem d_D_reckonGiven_61 : decode b_D_reckonGiven 61 = .ok (.aload_n 0, 1) := by decide +kernel
theorem d_D_reckonGiven_62 : decode b_D_reckonGiven 62 = .ok (.getfield 46, 3) := by decide +kernel
theorem d_D_reckonGiven_65 : decode b_D_reckonGiven 65 = .ok (.iload 5, 2) := by decide +kernel
theorem d_D_reckonGiven_67 : decode b_D_reckonGiven 67 = .ok (.aload_n 0, 1) := by decide +kernel
theorem d_D_reckonGiven_68 : decode b_D_reckonGiven 68 = .ok (.iload_n 3, 1) := by decide +kernel
theorem d_D_reckonGiven_69 : decode b_D_reckonGiven 69 = .ok (.iload 6, 2) := by decide +kernel
theorem d_D_reckonGiven_71 : decode b_D_reckonGiven 71 = .ok (.ior, 1) := by decide +kernel
theorem d_D_reckonGiven_72 : decode b_D_reckonGiven 72 = .ok (.invokevirtual 144, 3) := by decide +kernel
theorem d_D_reckonGiven_75 : decode b_D_reckonGiven 75 = .ok (.iastore, 1) := by decide +kernel
theorem d_D_reckonGiven_76 : decode b_D_reckonGiven 76 = .ok (.iinc 5 1, 3) := by decide +kernel
theorem d_D_reckonGiven_79 : decode b_D_reckonGiven 79 = .ok (.goto (-47), 3) := by decide +kernel
theorem d_D_reckonGiven_82 : decode b_D_reckonGiven 82 = .ok (.return_, 1) := by decide +kernel
abbrev b_D_leftOver : ByteArray := prog_1_method_57_code
def y_D_leftOver : MethodName := ⟨R_D, "leftOver", "(III)I"⟩
theorem mc_D_leftOver : Cond.code y_D_leftOver b_D_leftOver 5 (Option.some .int) ∈ lw_use := g_use (List.mem_of_getElem? (i := 434) (by decide +kernel)) rfl
theorem d_D_leftOver_0 : decode b_D_leftOver 0 = .ok (.aload_n 0, 1) := by decide +kernel
theorem d_D_leftOver_1 : decode b_D_leftOver 1 = .ok (.getfield 46, 3) := by decide +kernel
theorem d_D_leftOver_4 : decode b_D_leftOver 4 = .ok (.iload_n 2, 1) := by decide +kernel
theorem d_D_leftOver_5 : decode b_D_leftOver 5 = .ok (.iload_n 3, 1) := by decide +kernel
theorem d_D_leftOver_6 : decode b_D_leftOver 6 = .ok (.iadd, 1) := by decide +kernel
theorem d_D_leftOver_7 : decode b_D_leftOver 7 = .ok (.iaload, 1) := by decide +kernel
theorem d_D_leftOver_8 : decode b_D_leftOver 8 = .ok (.iload_n 1, 1) := by decide +kernel
theorem d_D_leftOver_9 : decode b_D_leftOver 9 = .ok (.invokestatic 150, 3) := by decide +kernel
theorem d_D_leftOver_12 : decode b_D_leftOver 12 = .ok (.istore 4, 2) := by decide +kernel
theorem d_D_leftOver_14 : decode b_D_leftOver 14 = .ok (.iload 4, 2) := by decide +kernel
theorem d_D_leftOver_16 : decode b_D_leftOver 16 = .ok (.ifCond .eq 7, 3) := by decide +kernel
theorem d_D_leftOver_19 : decode b_D_leftOver 19 = .ok (.iconst 0, 1) := by decide +kernel
theorem d_D_leftOver_20 : decode b_D_leftOver 20 = .ok (.goto 9, 3) := by decide +kernel
theorem d_D_leftOver_23 : decode b_D_leftOver 23 = .ok (.aload_n 0, 1) := by decide +kernel
theorem d_D_leftOver_24 : decode b_D_leftOver 24 = .ok (.getfield 20, 3) := by decide +kernel
theorem d_D_leftOver_27 : decode b_D_leftOver 27 = .ok (.iload_n 1, 1) := by decide +kernel
theorem d_D_leftOver_28 : decode b_D_leftOver 28 = .ok (.iaload, 1) := by decide +kernel
theorem d_D_leftOver_29 : decode b_D_leftOver 29 = .ok (.iload_n 2, 1) := by decide +kernel
theorem d_D_leftOver_30 : decode b_D_leftOver 30 = .ok (.isub, 1) := by decide +kernel
theorem d_D_leftOver_31 : decode b_D_leftOver 31 = .ok (.ireturn, 1) := by decide +kernel
abbrev b_D_isContent : ByteArray := prog_1_method_58_code
def y_D_isContent : MethodName := ⟨R_D, "isContent", "(III)Z"⟩
theorem mc_D_isContent : Cond.code y_D_isContent b_D_isContent 6 (Option.some .boolean) ∈ lw_use := g_use (List.mem_of_getElem? (i := 430) (by decide +kernel)) rfl
theorem d_D_isContent_0 : decode b_D_isContent 0 = .ok (.aload_n 0, 1) := by decide +kernel
theorem d_D_isContent_1 : decode b_D_isContent 1 = .ok (.iload_n 1, 1) := by decide +kernel
theorem d_D_isContent_2 : decode b_D_isContent 2 = .ok (.iload_n 2, 1) := by decide +kernel
theorem d_D_isContent_3 : decode b_D_isContent 3 = .ok (.iload_n 3, 1) := by decide +kernel
theorem d_D_isContent_4 : decode b_D_isContent 4 = .ok (.invokevirtual 242, 3) := by decide +kernel
theorem d_D_isContent_7 : decode b_D_isContent 7 = .ok (.istore 4, 2) := by decide +kernel
theorem d_D_isContent_9 : decode b_D_isContent 9 = .ok (.iconst 0, 1) := by decide +kernel
theorem d_D_isContent_10 : decode b_D_isContent 10 = .ok (.istore 5, 2) := by decide +kernel
theorem d_D_isContent_12 : decode b_D_isContent 12 = .ok (.iload 5, 2) := by decide +kernel
theorem d_D_isContent_14 : decode b_D_isContent 14 = .ok (.iconst 3, 1) := by decide +kernel
theorem d_D_isContent_15 : decode b_D_isContent 15 = .ok (.if_icmp .gt 24, 3) := by decide +kernel
theorem d_D_isContent_18 : decode b_D_isContent 18 = .ok (.aload_n 0, 1) := by decide +kernel
theorem d_D_isContent_19 : decode b_D_isContent 19 = .ok (.iload_n 1, 1) := by decide +kernel
theorem d_D_isContent_20 : decode b_D_isContent 20 = .ok (.iload 5, 2) := by decide +kernel
theorem d_D_isContent_22 : decode b_D_isContent 22 = .ok (.iload_n 3, 1) := by decide +kernel
theorem d_D_isContent_23 : decode b_D_isContent 23 = .ok (.invokevirtual 242, 3) := by decide +kernel
theorem d_D_isContent_26 : decode b_D_isContent 26 = .ok (.iload 4, 2) := by decide +kernel
theorem d_D_isContent_28 : decode b_D_isContent 28 = .ok (.if_icmp .le 5, 3) := by decide +kernel
theorem d_D_isContent_31 : decode b_D_isContent 31 = .ok (.iconst 0, 1) := by decide +kernel
theorem d_D_isContent_32 : decode b_D_isContent 32 = .ok (.ireturn, 1) := by decide +kernel
theorem d_D_isContent_33 : decode b_D_isContent 33 = .ok (.iinc 5 1, 3) := by decide +kernel
theorem d_D_isContent_36 : decode b_D_isContent 36 = .ok (.goto (-24), 3) := by decide +kernel
theorem d_D_isContent_39 : decode b_D_isContent 39 = .ok (.iconst 1, 1) := by decide +kernel
theorem d_D_isContent_40 : decode b_D_isContent 40 = .ok (.ireturn, 1) := by decide +kernel
abbrev b_D_holdsThrough : ByteArray := prog_1_method_59_code
def y_D_holdsThrough : MethodName := ⟨R_D, "holdsThrough", "(IIII)Z"⟩
theorem mc_D_holdsThrough : Cond.code y_D_holdsThrough b_D_holdsThrough 8 (Option.some .boolean) ∈ lw_use := g_use (List.mem_of_getElem? (i := 442) (by decide +kernel)) rfl
theorem d_D_holdsThrough_0 : decode b_D_holdsThrough 0 = .ok (.aload_n 0, 1) := by decide +kernel
theorem d_D_holdsThrough_1 : decode b_D_holdsThrough 1 = .ok (.getfield 29, 3) := by decide +kernel
theorem d_D_holdsThrough_4 : decode b_D_holdsThrough 4 = .ok (.getfield 117, 3) := by decide +kernel
theorem d_D_holdsThrough_7 : decode b_D_holdsThrough 7 = .ok (.iload_n 1, 1) := by decide +kernel
theorem d_D_holdsThrough_8 : decode b_D_holdsThrough 8 = .ok (.iaload, 1) := by decide +kernel
theorem d_D_holdsThrough_9 : decode b_D_holdsThrough 9 = .ok (.istore 5, 2) := by decide +kernel
theorem d_D_holdsThrough_11 : decode b_D_holdsThrough 11 = .ok (.iconst 0, 1) := by decide +kernel
theorem d_D_holdsThrough_12 : decode b_D_holdsThrough 12 = .ok (.istore 6, 2) := by decide +kernel
theorem d_D_holdsThrough_14 : decode b_D_holdsThrough 14 = .ok (.iload 6, 2) := by decide +kernel
theorem d_D_holdsThrough_16 : decode b_D_holdsThrough 16 = .ok (.iconst 3, 1) := by decide +kernel
theorem d_D_holdsThrough_17 : decode b_D_holdsThrough 17 = .ok (.if_icmp .ge 51, 3) := by decide +kernel
theorem d_D_holdsThrough_20 : decode b_D_holdsThrough 20 = .ok (.iload 4, 2) := by decide +kernel
theorem d_D_holdsThrough_22 : decode b_D_holdsThrough 22 = .ok (.iload 6, 2) := by decide +kernel
theorem d_D_holdsThrough_24 : decode b_D_holdsThrough 24 = .ok (.invokestatic 150, 3) := by decide +kernel
theorem d_D_holdsThrough_27 : decode b_D_holdsThrough 27 = .ok (.ifCond .eq 7, 3) := by decide +kernel
theorem d_D_holdsThrough_30 : decode b_D_holdsThrough 30 = .ok (.iload_n 2, 1) := by decide +kernel
theorem d_D_holdsThrough_31 : decode b_D_holdsThrough 31 = .ok (.goto 4, 3) := by decide +kernel
theorem d_D_holdsThrough_34 : decode b_D_holdsThrough 34 = .ok (.iload_n 3, 1) := by decide +kernel
theorem d_D_holdsThrough_35 : decode b_D_holdsThrough 35 = .ok (.istore 7, 2) := by decide +kernel
theorem d_D_holdsThrough_37 : decode b_D_holdsThrough 37 = .ok (.iload 7, 2) := by decide +kernel
theorem d_D_holdsThrough_39 : decode b_D_holdsThrough 39 = .ok (.aload_n 0, 1) := by decide +kernel
theorem d_D_holdsThrough_40 : decode b_D_holdsThrough 40 = .ok (.iload_n 1, 1) := by decide +kernel
theorem d_D_holdsThrough_41 : decode b_D_holdsThrough 41 = .ok (.iload 5, 2) := by decide +kernel
theorem d_D_holdsThrough_43 : decode b_D_holdsThrough 43 = .ok (.invokevirtual 126, 3) := by decide +kernel
theorem d_D_holdsThrough_46 : decode b_D_holdsThrough 46 = .ok (.if_icmp .le 5, 3) := by decide +kernel
theorem d_D_holdsThrough_49 : decode b_D_holdsThrough 49 = .ok (.iconst 0, 1) := by decide +kernel
theorem d_D_holdsThrough_50 : decode b_D_holdsThrough 50 = .ok (.ireturn, 1) := by decide +kernel
theorem d_D_holdsThrough_51 : decode b_D_holdsThrough 51 = .ok (.aload_n 0, 1) := by decide +kernel
theorem d_D_holdsThrough_52 : decode b_D_holdsThrough 52 = .ok (.iload_n 1, 1) := by decide +kernel
theorem d_D_holdsThrough_53 : decode b_D_holdsThrough 53 = .ok (.iload 5, 2) := by decide +kernel
theorem d_D_holdsThrough_55 : decode b_D_holdsThrough 55 = .ok (.iload 7, 2) := by decide +kernel
theorem d_D_holdsThrough_57 : decode b_D_holdsThrough 57 = .ok (.invokevirtual 232, 3) := by decide +kernel
theorem d_D_holdsThrough_60 : decode b_D_holdsThrough 60 = .ok (.istore 5, 2) := by decide +kernel
theorem d_D_holdsThrough_62 : decode b_D_holdsThrough 62 = .ok (.iinc 6 1, 3) := by decide +kernel
theorem d_D_holdsThrough_65 : decode b_D_holdsThrough 65 = .ok (.goto (-51), 3) := by decide +kernel
theorem d_D_holdsThrough_68 : decode b_D_holdsThrough 68 = .ok (.iconst 1, 1) := by decide +kernel
theorem d_D_holdsThrough_69 : decode b_D_holdsThrough 69 = .ok (.ireturn, 1) := by decide +kernel
abbrev b_D_chanceOf : ByteArray := prog_1_method_60_code
def y_D_chanceOf : MethodName := ⟨R_D, "chanceOf", "(II)I"⟩
theorem mc_D_chanceOf : Cond.code y_D_chanceOf b_D_chanceOf 4 (Option.some .int) ∈ lw_use := g_use (List.mem_of_getElem? (i := 445) (by decide +kernel)) rfl
theorem d_D_chanceOf_0 : decode b_D_chanceOf 0 = .ok (.iconst 1, 1) := by decide +kernel
theorem d_D_chanceOf_1 : decode b_D_chanceOf 1 = .ok (.istore_n 2, 1) := by decide +kernel
theorem d_D_chanceOf_2 : decode b_D_chanceOf 2 = .ok (.iconst 0, 1) := by decide +kernel
theorem d_D_chanceOf_3 : decode b_D_chanceOf 3 = .ok (.istore_n 3, 1) := by decide +kernel
theorem d_D_chanceOf_4 : decode b_D_chanceOf 4 = .ok (.iload_n 3, 1) := by decide +kernel
theorem d_D_chanceOf_5 : decode b_D_chanceOf 5 = .ok (.iconst 3, 1) := by decide +kernel
theorem d_D_chanceOf_6 : decode b_D_chanceOf 6 = .ok (.if_icmp .ge 28, 3) := by decide +kernel
theorem d_D_chanceOf_9 : decode b_D_chanceOf 9 = .ok (.iload_n 2, 1) := by decide +kernel
theorem d_D_chanceOf_10 : decode b_D_chanceOf 10 = .ok (.iload_n 0, 1) := by decide +kernel
theorem d_D_chanceOf_11 : decode b_D_chanceOf 11 = .ok (.iload_n 3, 1) := by decide +kernel
theorem d_D_chanceOf_12 : decode b_D_chanceOf 12 = .ok (.invokestatic 150, 3) := by decide +kernel
theorem d_D_chanceOf_15 : decode b_D_chanceOf 15 = .ok (.ifCond .eq 7, 3) := by decide +kernel
theorem d_D_chanceOf_18 : decode b_D_chanceOf 18 = .ok (.iload_n 1, 1) := by decide +kernel
theorem d_D_chanceOf_19 : decode b_D_chanceOf 19 = .ok (.goto 7, 3) := by decide +kernel
theorem d_D_chanceOf_22 : decode b_D_chanceOf 22 = .ok (.bipush 10, 2) := by decide +kernel
theorem d_D_chanceOf_24 : decode b_D_chanceOf 24 = .ok (.iload_n 1, 1) := by decide +kernel
theorem d_D_chanceOf_25 : decode b_D_chanceOf 25 = .ok (.isub, 1) := by decide +kernel
theorem d_D_chanceOf_26 : decode b_D_chanceOf 26 = .ok (.imul, 1) := by decide +kernel
theorem d_D_chanceOf_27 : decode b_D_chanceOf 27 = .ok (.istore_n 2, 1) := by decide +kernel
theorem d_D_chanceOf_28 : decode b_D_chanceOf 28 = .ok (.iinc 3 1, 3) := by decide +kernel
theorem d_D_chanceOf_31 : decode b_D_chanceOf 31 = .ok (.goto (-27), 3) := by decide +kernel
theorem d_D_chanceOf_34 : decode b_D_chanceOf 34 = .ok (.iload_n 2, 1) := by decide +kernel
theorem d_D_chanceOf_35 : decode b_D_chanceOf 35 = .ok (.ireturn, 1) := by decide +kernel
abbrev b_D_inLeastTerms : ByteArray := prog_1_method_61_code
def y_D_inLeastTerms : MethodName := ⟨R_D, "inLeastTerms", "(IIZ)I"⟩
theorem mc_D_inLeastTerms : Cond.code y_D_inLeastTerms b_D_inLeastTerms 5 (Option.some .int) ∈ lw_use := g_use (List.mem_of_getElem? (i := 415) (by decide +kernel)) rfl
theorem d_D_inLeastTerms_0 : decode b_D_inLeastTerms 0 = .ok (.iload_n 0, 1) := by decide +kernel
theorem d_D_inLeastTerms_1 : decode b_D_inLeastTerms 1 = .ok (.iload_n 1, 1) := by decide +kernel
theorem d_D_inLeastTerms_2 : decode b_D_inLeastTerms 2 = .ok (.invokestatic 245, 3) := by decide +kernel
theorem d_D_inLeastTerms_5 : decode b_D_inLeastTerms 5 = .ok (.istore_n 3, 1) := by decide +kernel
theorem d_D_inLeastTerms_6 : decode b_D_inLeastTerms 6 = .ok (.iload_n 2, 1) := by decide +kernel
theorem d_D_inLeastTerms_7 : decode b_D_inLeastTerms 7 = .ok (.ifCond .eq 7, 3) := by decide +kernel
theorem d_D_inLeastTerms_10 : decode b_D_inLeastTerms 10 = .ok (.iload_n 0, 1) := by decide +kernel
theorem d_D_inLeastTerms_11 : decode b_D_inLeastTerms 11 = .ok (.goto 4, 3) := by decide +kernel
theorem d_D_inLeastTerms_14 : decode b_D_inLeastTerms 14 = .ok (.iload_n 1, 1) := by decide +kernel
theorem d_D_inLeastTerms_15 : decode b_D_inLeastTerms 15 = .ok (.istore 4, 2) := by decide +kernel
theorem d_D_inLeastTerms_17 : decode b_D_inLeastTerms 17 = .ok (.iload_n 3, 1) := by decide +kernel
theorem d_D_inLeastTerms_18 : decode b_D_inLeastTerms 18 = .ok (.ifCond .ne 8, 3) := by decide +kernel
theorem d_D_inLeastTerms_21 : decode b_D_inLeastTerms 21 = .ok (.iload 4, 2) := by decide +kernel
theorem d_D_inLeastTerms_23 : decode b_D_inLeastTerms 23 = .ok (.goto 7, 3) := by decide +kernel
theorem d_D_inLeastTerms_26 : decode b_D_inLeastTerms 26 = .ok (.iload 4, 2) := by decide +kernel
theorem d_D_inLeastTerms_28 : decode b_D_inLeastTerms 28 = .ok (.iload_n 3, 1) := by decide +kernel
theorem d_D_inLeastTerms_29 : decode b_D_inLeastTerms 29 = .ok (.idiv, 1) := by decide +kernel
theorem d_D_inLeastTerms_30 : decode b_D_inLeastTerms 30 = .ok (.ireturn, 1) := by decide +kernel
abbrev b_D_commonDivisor : ByteArray := prog_1_method_62_code
def y_D_commonDivisor : MethodName := ⟨R_D, "commonDivisor", "(II)I"⟩
theorem mc_D_commonDivisor : Cond.code y_D_commonDivisor b_D_commonDivisor 6 (Option.some .int) ∈ lw_use := g_use (List.mem_of_getElem? (i := 418) (by decide +kernel)) rfl
theorem d_D_commonDivisor_0 : decode b_D_commonDivisor 0 = .ok (.iload_n 0, 1) := by decide +kernel
theorem d_D_commonDivisor_1 : decode b_D_commonDivisor 1 = .ok (.istore_n 2, 1) := by decide +kernel
theorem d_D_commonDivisor_2 : decode b_D_commonDivisor 2 = .ok (.iload_n 1, 1) := by decide +kernel
theorem d_D_commonDivisor_3 : decode b_D_commonDivisor 3 = .ok (.istore_n 3, 1) := by decide +kernel
theorem d_D_commonDivisor_4 : decode b_D_commonDivisor 4 = .ok (.iconst 0, 1) := by decide +kernel
theorem d_D_commonDivisor_5 : decode b_D_commonDivisor 5 = .ok (.istore 4, 2) := by decide +kernel
theorem d_D_commonDivisor_7 : decode b_D_commonDivisor 7 = .ok (.iload 4, 2) := by decide +kernel
theorem d_D_commonDivisor_9 : decode b_D_commonDivisor 9 = .ok (.bipush 64, 2) := by decide +kernel
theorem d_D_commonDivisor_11 : decode b_D_commonDivisor 11 = .ok (.if_icmp .ge 23, 3) := by decide +kernel
theorem d_D_commonDivisor_14 : decode b_D_commonDivisor 14 = .ok (.iload_n 3, 1) := by decide +kernel
theorem d_D_commonDivisor_15 : decode b_D_commonDivisor 15 = .ok (.ifCond .eq 19, 3) := by decide +kernel
theorem d_D_commonDivisor_18 : decode b_D_commonDivisor 18 = .ok (.iload_n 2, 1) := by decide +kernel
theorem d_D_commonDivisor_19 : decode b_D_commonDivisor 19 = .ok (.iload_n 3, 1) := by decide +kernel
theorem d_D_commonDivisor_20 : decode b_D_commonDivisor 20 = .ok (.irem, 1) := by decide +kernel
theorem d_D_commonDivisor_21 : decode b_D_commonDivisor 21 = .ok (.istore 5, 2) := by decide +kernel
theorem d_D_commonDivisor_23 : decode b_D_commonDivisor 23 = .ok (.iload_n 3, 1) := by decide +kernel
theorem d_D_commonDivisor_24 : decode b_D_commonDivisor 24 = .ok (.istore_n 2, 1) := by decide +kernel
theorem d_D_commonDivisor_25 : decode b_D_commonDivisor 25 = .ok (.iload 5, 2) := by decide +kernel
theorem d_D_commonDivisor_27 : decode b_D_commonDivisor 27 = .ok (.istore_n 3, 1) := by decide +kernel
theorem d_D_commonDivisor_28 : decode b_D_commonDivisor 28 = .ok (.iinc 4 1, 3) := by decide +kernel
theorem d_D_commonDivisor_31 : decode b_D_commonDivisor 31 = .ok (.goto (-24), 3) := by decide +kernel
theorem d_D_commonDivisor_34 : decode b_D_commonDivisor 34 = .ok (.iload_n 2, 1) := by decide +kernel
theorem d_D_commonDivisor_35 : decode b_D_commonDivisor 35 = .ok (.ireturn, 1) := by decide +kernel
abbrev b_H_init : ByteArray := prog_2_method_1_code
def y_H_init : MethodName := ⟨R_H, "<init>", "()V"⟩
theorem mc_H_init : Cond.code y_H_init b_H_init 1 none ∈ lw_use := g_use (List.mem_of_getElem? (i := 87) (by decide +kernel)) rfl
theorem d_H_init_0 : decode b_H_init 0 = .ok (.aload_n 0, 1) := by decide +kernel
theorem d_H_init_1 : decode b_H_init 1 = .ok (.invokespecial 3, 3) := by decide +kernel
theorem d_H_init_4 : decode b_H_init 4 = .ok (.aload_n 0, 1) := by decide +kernel
theorem d_H_init_5 : decode b_H_init 5 = .ok (.bipush 6, 2) := by decide +kernel
theorem d_H_init_7 : decode b_H_init 7 = .ok (.newarray .int, 2) := by decide +kernel
theorem d_H_init_9 : decode b_H_init 9 = .ok (.putfield 9, 3) := by decide +kernel
theorem d_H_init_12 : decode b_H_init 12 = .ok (.aload_n 0, 1) := by decide +kernel
theorem d_H_init_13 : decode b_H_init 13 = .ok (.bipush 6, 2) := by decide +kernel
theorem d_H_init_15 : decode b_H_init 15 = .ok (.newarray .int, 2) := by decide +kernel
theorem d_H_init_17 : decode b_H_init 17 = .ok (.putfield 15, 3) := by decide +kernel
theorem d_H_init_20 : decode b_H_init 20 = .ok (.aload_n 0, 1) := by decide +kernel
theorem d_H_init_21 : decode b_H_init 21 = .ok (.bipush 6, 2) := by decide +kernel
theorem d_H_init_23 : decode b_H_init 23 = .ok (.newarray .int, 2) := by decide +kernel
theorem d_H_init_25 : decode b_H_init 25 = .ok (.putfield 18, 3) := by decide +kernel
theorem d_H_init_28 : decode b_H_init 28 = .ok (.aload_n 0, 1) := by decide +kernel
theorem d_H_init_29 : decode b_H_init 29 = .ok (.bipush 6, 2) := by decide +kernel
theorem d_H_init_31 : decode b_H_init 31 = .ok (.bipush 6, 2) := by decide +kernel
theorem d_H_init_33 : decode b_H_init 33 = .ok (.multianewarray 21 2, 4) := by decide +kernel
theorem d_H_init_37 : decode b_H_init 37 = .ok (.putfield 23, 3) := by decide +kernel
theorem d_H_init_40 : decode b_H_init 40 = .ok (.return_, 1) := by decide +kernel
abbrev b_H_clear : ByteArray := prog_2_method_2_code
def y_H_clear : MethodName := ⟨R_H, "clear", "()V"⟩
theorem mc_H_clear : Cond.code y_H_clear b_H_clear 2 none ∈ lw_use := g_use (List.mem_of_getElem? (i := 225) (by decide +kernel)) rfl
theorem d_H_clear_0 : decode b_H_clear 0 = .ok (.aload_n 0, 1) := by decide +kernel
theorem d_H_clear_1 : decode b_H_clear 1 = .ok (.getfield 9, 3) := by decide +kernel
theorem d_H_clear_4 : decode b_H_clear 4 = .ok (.iconst 0, 1) := by decide +kernel
theorem d_H_clear_5 : decode b_H_clear 5 = .ok (.invokestatic 26, 3) := by decide +kernel
theorem d_H_clear_8 : decode b_H_clear 8 = .ok (.aload_n 0, 1) := by decide +kernel
theorem d_H_clear_9 : decode b_H_clear 9 = .ok (.getfield 15, 3) := by decide +kernel
theorem d_H_clear_12 : decode b_H_clear 12 = .ok (.iconst 0, 1) := by decide +kernel
theorem d_H_clear_13 : decode b_H_clear 13 = .ok (.invokestatic 26, 3) := by decide +kernel
theorem d_H_clear_16 : decode b_H_clear 16 = .ok (.aload_n 0, 1) := by decide +kernel
theorem d_H_clear_17 : decode b_H_clear 17 = .ok (.getfield 18, 3) := by decide +kernel
theorem d_H_clear_20 : decode b_H_clear 20 = .ok (.iconst 0, 1) := by decide +kernel
theorem d_H_clear_21 : decode b_H_clear 21 = .ok (.invokestatic 26, 3) := by decide +kernel
theorem d_H_clear_24 : decode b_H_clear 24 = .ok (.iconst 0, 1) := by decide +kernel
theorem d_H_clear_25 : decode b_H_clear 25 = .ok (.istore_n 1, 1) := by decide +kernel
theorem d_H_clear_26 : decode b_H_clear 26 = .ok (.iload_n 1, 1) := by decide +kernel
theorem d_H_clear_27 : decode b_H_clear 27 = .ok (.bipush 6, 2) := by decide +kernel
theorem d_H_clear_29 : decode b_H_clear 29 = .ok (.if_icmp .ge 19, 3) := by decide +kernel
theorem d_H_clear_32 : decode b_H_clear 32 = .ok (.aload_n 0, 1) := by decide +kernel
theorem d_H_clear_33 : decode b_H_clear 33 = .ok (.getfield 23, 3) := by decide +kernel
theorem d_H_clear_36 : decode b_H_clear 36 = .ok (.iload_n 1, 1) := by decide +kernel
theorem d_H_clear_37 : decode b_H_clear 37 = .ok (.aaload, 1) := by decide +kernel
theorem d_H_clear_38 : decode b_H_clear 38 = .ok (.iconst 0, 1) := by decide +kernel
theorem d_H_clear_39 : decode b_H_clear 39 = .ok (.invokestatic 26, 3) := by decide +kernel
theorem d_H_clear_42 : decode b_H_clear 42 = .ok (.iinc 1 1, 3) := by decide +kernel
theorem d_H_clear_45 : decode b_H_clear 45 = .ok (.goto (-19), 3) := by decide +kernel
theorem d_H_clear_48 : decode b_H_clear 48 = .ok (.aload_n 0, 1) := by decide +kernel
theorem d_H_clear_49 : decode b_H_clear 49 = .ok (.iconst 0, 1) := by decide +kernel
theorem d_H_clear_50 : decode b_H_clear 50 = .ok (.putfield 32, 3) := by decide +kernel
theorem d_H_clear_53 : decode b_H_clear 53 = .ok (.aload_n 0, 1) := by decide +kernel
theorem d_H_clear_54 : decode b_H_clear 54 = .ok (.iconst 0, 1) := by decide +kernel
theorem d_H_clear_55 : decode b_H_clear 55 = .ok (.putfield 36, 3) := by decide +kernel
theorem d_H_clear_58 : decode b_H_clear 58 = .ok (.aload_n 0, 1) := by decide +kernel
theorem d_H_clear_59 : decode b_H_clear 59 = .ok (.iconst 0, 1) := by decide +kernel
theorem d_H_clear_60 : decode b_H_clear 60 = .ok (.putfield 39, 3) := by decide +kernel
theorem d_H_clear_63 : decode b_H_clear 63 = .ok (.return_, 1) := by decide +kernel
abbrev b_H_takeOver : ByteArray := prog_2_method_3_code
def y_H_takeOver : MethodName := ⟨R_H, "takeOver", "(LDykeFarms$Held;)V"⟩
theorem mc_H_takeOver : Cond.code y_H_takeOver b_H_takeOver 3 none ∈ lw_use := g_use (List.mem_of_getElem? (i := 284) (by decide +kernel)) rfl
theorem d_H_takeOver_0 : decode b_H_takeOver 0 = .ok (.aload_n 1, 1) := by decide +kernel
theorem d_H_takeOver_1 : decode b_H_takeOver 1 = .ok (.getfield 9, 3) := by decide +kernel
theorem d_H_takeOver_4 : decode b_H_takeOver 4 = .ok (.aload_n 0, 1) := by decide +kernel
theorem d_H_takeOver_5 : decode b_H_takeOver 5 = .ok (.getfield 9, 3) := by decide +kernel
theorem d_H_takeOver_8 : decode b_H_takeOver 8 = .ok (.invokestatic 42, 3) := by decide +kernel
theorem d_H_takeOver_11 : decode b_H_takeOver 11 = .ok (.aload_n 1, 1) := by decide +kernel
theorem d_H_takeOver_12 : decode b_H_takeOver 12 = .ok (.getfield 15, 3) := by decide +kernel
theorem d_H_takeOver_15 : decode b_H_takeOver 15 = .ok (.aload_n 0, 1) := by decide +kernel
theorem d_H_takeOver_16 : decode b_H_takeOver 16 = .ok (.getfield 15, 3) := by decide +kernel
theorem d_H_takeOver_19 : decode b_H_takeOver 19 = .ok (.invokestatic 42, 3) := by decide +kernel
theorem d_H_takeOver_22 : decode b_H_takeOver 22 = .ok (.aload_n 1, 1) := by decide +kernel
theorem d_H_takeOver_23 : decode b_H_takeOver 23 = .ok (.getfield 18, 3) := by decide +kernel
theorem d_H_takeOver_26 : decode b_H_takeOver 26 = .ok (.aload_n 0, 1) := by decide +kernel
theorem d_H_takeOver_27 : decode b_H_takeOver 27 = .ok (.getfield 18, 3) := by decide +kernel
theorem d_H_takeOver_30 : decode b_H_takeOver 30 = .ok (.invokestatic 42, 3) := by decide +kernel
theorem d_H_takeOver_33 : decode b_H_takeOver 33 = .ok (.iconst 0, 1) := by decide +kernel
theorem d_H_takeOver_34 : decode b_H_takeOver 34 = .ok (.istore_n 2, 1) := by decide +kernel
theorem d_H_takeOver_35 : decode b_H_takeOver 35 = .ok (.iload_n 2, 1) := by decide +kernel
theorem d_H_takeOver_36 : decode b_H_takeOver 36 = .ok (.bipush 6, 2) := by decide +kernel
theorem d_H_takeOver_38 : decode b_H_takeOver 38 = .ok (.if_icmp .ge 24, 3) := by decide +kernel
theorem d_H_takeOver_41 : decode b_H_takeOver 41 = .ok (.aload_n 1, 1) := by decide +kernel
theorem d_H_takeOver_42 : decode b_H_takeOver 42 = .ok (.getfield 23, 3) := by decide +kernel
theorem d_H_takeOver_45 : decode b_H_takeOver 45 = .ok (.iload_n 2, 1) := by decide +kernel
theorem d_H_takeOver_46 : decode b_H_takeOver 46 = .ok (.aaload, 1) := by decide +kernel
theorem d_H_takeOver_47 : decode b_H_takeOver 47 = .ok (.aload_n 0, 1) := by decide +kernel
theorem d_H_takeOver_48 : decode b_H_takeOver 48 = .ok (.getfield 23, 3) := by decide +kernel
theorem d_H_takeOver_51 : decode b_H_takeOver 51 = .ok (.iload_n 2, 1) := by decide +kernel
theorem d_H_takeOver_52 : decode b_H_takeOver 52 = .ok (.aaload, 1) := by decide +kernel
theorem d_H_takeOver_53 : decode b_H_takeOver 53 = .ok (.invokestatic 42, 3) := by decide +kernel
theorem d_H_takeOver_56 : decode b_H_takeOver 56 = .ok (.iinc 2 1, 3) := by decide +kernel
theorem d_H_takeOver_59 : decode b_H_takeOver 59 = .ok (.goto (-24), 3) := by decide +kernel
theorem d_H_takeOver_62 : decode b_H_takeOver 62 = .ok (.aload_n 0, 1) := by decide +kernel
theorem d_H_takeOver_63 : decode b_H_takeOver 63 = .ok (.aload_n 1, 1) := by decide +kernel
theorem d_H_takeOver_64 : decode b_H_takeOver 64 = .ok (.getfield 32, 3) := by decide +kernel
theorem d_H_takeOver_67 : decode b_H_takeOver 67 = .ok (.putfield 32, 3) := by decide +kernel
theorem d_H_takeOver_70 : decode b_H_takeOver 70 = .ok (.aload_n 0, 1) := by decide +kernel
theorem d_H_takeOver_71 : decode b_H_takeOver 71 = .ok (.aload_n 1, 1) := by decide +kernel
theorem d_H_takeOver_72 : decode b_H_takeOver 72 = .ok (.getfield 36, 3) := by decide +kernel
theorem d_H_takeOver_75 : decode b_H_takeOver 75 = .ok (.putfield 36, 3) := by decide +kernel
theorem d_H_takeOver_78 : decode b_H_takeOver 78 = .ok (.aload_n 0, 1) := by decide +kernel
theorem d_H_takeOver_79 : decode b_H_takeOver 79 = .ok (.aload_n 1, 1) := by decide +kernel
theorem d_H_takeOver_80 : decode b_H_takeOver 80 = .ok (.getfield 39, 3) := by decide +kernel
theorem d_H_takeOver_83 : decode b_H_takeOver 83 = .ok (.putfield 39, 3) := by decide +kernel
theorem d_H_takeOver_86 : decode b_H_takeOver 86 = .ok (.return_, 1) := by decide +kernel
abbrev b_S_init : ByteArray := prog_3_method_1_code
def y_S_init : MethodName := ⟨R_S, "<init>", "()V"⟩
theorem mc_S_init : Cond.code y_S_init b_S_init 1 none ∈ lw_use := g_use (List.mem_of_getElem? (i := 71) (by decide +kernel)) rfl
theorem d_S_init_0 : decode b_S_init 0 = .ok (.aload_n 0, 1) := by decide +kernel
theorem d_S_init_1 : decode b_S_init 1 = .ok (.invokespecial 3, 3) := by decide +kernel
theorem d_S_init_4 : decode b_S_init 4 = .ok (.aload_n 0, 1) := by decide +kernel
theorem d_S_init_5 : decode b_S_init 5 = .ok (.bipush 48, 2) := by decide +kernel
theorem d_S_init_7 : decode b_S_init 7 = .ok (.newarray .int, 2) := by decide +kernel
theorem d_S_init_9 : decode b_S_init 9 = .ok (.putfield 9, 3) := by decide +kernel
theorem d_S_init_12 : decode b_S_init 12 = .ok (.return_, 1) := by decide +kernel
abbrev b_S_letterAt : ByteArray := prog_3_method_2_code
def y_S_letterAt : MethodName := ⟨R_S, "letterAt", "(I)I"⟩
theorem mc_S_letterAt : Cond.code y_S_letterAt b_S_letterAt 3 (Option.some .int) ∈ lw_use := g_use (List.mem_of_getElem? (i := 195) (by decide +kernel)) rfl
theorem d_S_letterAt_0 : decode b_S_letterAt 0 = .ok (.iload_n 1, 1) := by decide +kernel
theorem d_S_letterAt_1 : decode b_S_letterAt 1 = .ok (.ifCond .lt 24, 3) := by decide +kernel
theorem d_S_letterAt_4 : decode b_S_letterAt 4 = .ok (.iload_n 1, 1) := by decide +kernel
theorem d_S_letterAt_5 : decode b_S_letterAt 5 = .ok (.aload_n 0, 1) := by decide +kernel
theorem d_S_letterAt_6 : decode b_S_letterAt 6 = .ok (.getfield 15, 3) := by decide +kernel
theorem d_S_letterAt_9 : decode b_S_letterAt 9 = .ok (.if_icmp .ge 16, 3) := by decide +kernel
theorem d_S_letterAt_12 : decode b_S_letterAt 12 = .ok (.iload_n 1, 1) := by decide +kernel
theorem d_S_letterAt_13 : decode b_S_letterAt 13 = .ok (.aload_n 0, 1) := by decide +kernel
theorem d_S_letterAt_14 : decode b_S_letterAt 14 = .ok (.getfield 9, 3) := by decide +kernel
theorem d_S_letterAt_17 : decode b_S_letterAt 17 = .ok (.arraylength, 1) := by decide +kernel
theorem d_S_letterAt_18 : decode b_S_letterAt 18 = .ok (.if_icmp .ge 7, 3) := by decide +kernel
theorem d_S_letterAt_21 : decode b_S_letterAt 21 = .ok (.iconst 1, 1) := by decide +kernel
theorem d_S_letterAt_22 : decode b_S_letterAt 22 = .ok (.goto 4, 3) := by decide +kernel
theorem d_S_letterAt_25 : decode b_S_letterAt 25 = .ok (.iconst 0, 1) := by decide +kernel
theorem d_S_letterAt_26 : decode b_S_letterAt 26 = .ok (.istore_n 2, 1) := by decide +kernel
theorem d_S_letterAt_27 : decode b_S_letterAt 27 = .ok (.iload_n 2, 1) := by decide +kernel
theorem d_S_letterAt_28 : decode b_S_letterAt 28 = .ok (.ifCond .eq 12, 3) := by decide +kernel
theorem d_S_letterAt_31 : decode b_S_letterAt 31 = .ok (.aload_n 0, 1) := by decide +kernel
theorem d_S_letterAt_32 : decode b_S_letterAt 32 = .ok (.getfield 9, 3) := by decide +kernel
theorem d_S_letterAt_35 : decode b_S_letterAt 35 = .ok (.iload_n 1, 1) := by decide +kernel
theorem d_S_letterAt_36 : decode b_S_letterAt 36 = .ok (.iaload, 1) := by decide +kernel
theorem d_S_letterAt_37 : decode b_S_letterAt 37 = .ok (.goto 4, 3) := by decide +kernel
theorem d_S_letterAt_40 : decode b_S_letterAt 40 = .ok (.iconst (-1), 1) := by decide +kernel
theorem d_S_letterAt_41 : decode b_S_letterAt 41 = .ok (.ireturn, 1) := by decide +kernel
abbrev b_S_figureAt : ByteArray := prog_3_method_3_code
def y_S_figureAt : MethodName := ⟨R_S, "figureAt", "(I)I"⟩
theorem mc_S_figureAt : Cond.code y_S_figureAt b_S_figureAt 3 (Option.some .int) ∈ lw_use := g_use (List.mem_of_getElem? (i := 205) (by decide +kernel)) rfl
theorem d_S_figureAt_0 : decode b_S_figureAt 0 = .ok (.aload_n 0, 1) := by decide +kernel
theorem d_S_figureAt_1 : decode b_S_figureAt 1 = .ok (.iload_n 1, 1) := by decide +kernel
theorem d_S_figureAt_2 : decode b_S_figureAt 2 = .ok (.invokevirtual 19, 3) := by decide +kernel
theorem d_S_figureAt_5 : decode b_S_figureAt 5 = .ok (.istore_n 2, 1) := by decide +kernel
theorem d_S_figureAt_6 : decode b_S_figureAt 6 = .ok (.iload_n 2, 1) := by decide +kernel
theorem d_S_figureAt_7 : decode b_S_figureAt 7 = .ok (.bipush 48, 2) := by decide +kernel
theorem d_S_figureAt_9 : decode b_S_figureAt 9 = .ok (.if_icmp .lt 16, 3) := by decide +kernel
theorem d_S_figureAt_12 : decode b_S_figureAt 12 = .ok (.iload_n 2, 1) := by decide +kernel
theorem d_S_figureAt_13 : decode b_S_figureAt 13 = .ok (.bipush 57, 2) := by decide +kernel
theorem d_S_figureAt_15 : decode b_S_figureAt 15 = .ok (.if_icmp .gt 10, 3) := by decide +kernel
theorem d_S_figureAt_18 : decode b_S_figureAt 18 = .ok (.iload_n 2, 1) := by decide +kernel
theorem d_S_figureAt_19 : decode b_S_figureAt 19 = .ok (.bipush 48, 2) := by decide +kernel
theorem d_S_figureAt_21 : decode b_S_figureAt 21 = .ok (.isub, 1) := by decide +kernel
theorem d_S_figureAt_22 : decode b_S_figureAt 22 = .ok (.goto 4, 3) := by decide +kernel
theorem d_S_figureAt_25 : decode b_S_figureAt 25 = .ok (.iconst (-1), 1) := by decide +kernel
theorem d_S_figureAt_26 : decode b_S_figureAt 26 = .ok (.ireturn, 1) := by decide +kernel
abbrev b_S_rightFigures : ByteArray := prog_3_method_4_code
def y_S_rightFigures : MethodName := ⟨R_S, "rightFigures", "(I)I"⟩
theorem mc_S_rightFigures : Cond.code y_S_rightFigures b_S_rightFigures 4 (Option.some .int) ∈ lw_use := g_use (List.mem_of_getElem? (i := 199) (by decide +kernel)) rfl
theorem d_S_rightFigures_0 : decode b_S_rightFigures 0 = .ok (.iconst 0, 1) := by decide +kernel
theorem d_S_rightFigures_1 : decode b_S_rightFigures 1 = .ok (.istore_n 2, 1) := by decide +kernel
theorem d_S_rightFigures_2 : decode b_S_rightFigures 2 = .ok (.iload_n 2, 1) := by decide +kernel
theorem d_S_rightFigures_3 : decode b_S_rightFigures 3 = .ok (.getstatic 23, 3) := by decide +kernel
theorem d_S_rightFigures_6 : decode b_S_rightFigures 6 = .ok (.arraylength, 1) := by decide +kernel
theorem d_S_rightFigures_7 : decode b_S_rightFigures 7 = .ok (.if_icmp .ge 32, 3) := by decide +kernel
theorem d_S_rightFigures_10 : decode b_S_rightFigures 10 = .ok (.aload_n 0, 1) := by decide +kernel
theorem d_S_rightFigures_11 : decode b_S_rightFigures 11 = .ok (.iload_n 1, 1) := by decide +kernel
theorem d_S_rightFigures_12 : decode b_S_rightFigures 12 = .ok (.iload_n 2, 1) := by decide +kernel
theorem d_S_rightFigures_13 : decode b_S_rightFigures 13 = .ok (.iadd, 1) := by decide +kernel
theorem d_S_rightFigures_14 : decode b_S_rightFigures 14 = .ok (.invokevirtual 26, 3) := by decide +kernel
theorem d_S_rightFigures_17 : decode b_S_rightFigures 17 = .ok (.istore_n 3, 1) := by decide +kernel
theorem d_S_rightFigures_18 : decode b_S_rightFigures 18 = .ok (.iload_n 3, 1) := by decide +kernel
theorem d_S_rightFigures_19 : decode b_S_rightFigures 19 = .ok (.ifCond .lt 12, 3) := by decide +kernel
theorem d_S_rightFigures_22 : decode b_S_rightFigures 22 = .ok (.iload_n 3, 1) := by decide +kernel
theorem d_S_rightFigures_23 : decode b_S_rightFigures 23 = .ok (.getstatic 23, 3) := by decide +kernel
theorem d_S_rightFigures_26 : decode b_S_rightFigures 26 = .ok (.iload_n 2, 1) := by decide +kernel
theorem d_S_rightFigures_27 : decode b_S_rightFigures 27 = .ok (.iaload, 1) := by decide +kernel
theorem d_S_rightFigures_28 : decode b_S_rightFigures 28 = .ok (.if_icmp .le 5, 3) := by decide +kernel
theorem d_S_rightFigures_31 : decode b_S_rightFigures 31 = .ok (.iload_n 2, 1) := by decide +kernel
theorem d_S_rightFigures_32 : decode b_S_rightFigures 32 = .ok (.ireturn, 1) := by decide +kernel
theorem d_S_rightFigures_33 : decode b_S_rightFigures 33 = .ok (.iinc 2 1, 3) := by decide +kernel
theorem d_S_rightFigures_36 : decode b_S_rightFigures 36 = .ok (.goto (-34), 3) := by decide +kernel
theorem d_S_rightFigures_39 : decode b_S_rightFigures 39 = .ok (.getstatic 23, 3) := by decide +kernel
theorem d_S_rightFigures_42 : decode b_S_rightFigures 42 = .ok (.arraylength, 1) := by decide +kernel
theorem d_S_rightFigures_43 : decode b_S_rightFigures 43 = .ok (.ireturn, 1) := by decide +kernel
abbrev b_S_firstFault : ByteArray := prog_3_method_5_code
def y_S_firstFault : MethodName := ⟨R_S, "firstFault", "()I"⟩
theorem mc_S_firstFault : Cond.code y_S_firstFault b_S_firstFault 6 (Option.some .int) ∈ lw_use := g_use (List.mem_of_getElem? (i := 191) (by decide +kernel)) rfl
theorem d_S_firstFault_0 : decode b_S_firstFault 0 = .ok (.aload_n 0, 1) := by decide +kernel
theorem d_S_firstFault_1 : decode b_S_firstFault 1 = .ok (.iconst 0, 1) := by decide +kernel
theorem d_S_firstFault_2 : decode b_S_firstFault 2 = .ok (.invokevirtual 19, 3) := by decide +kernel
theorem d_S_firstFault_5 : decode b_S_firstFault 5 = .ok (.bipush 68, 2) := by decide +kernel
theorem d_S_firstFault_7 : decode b_S_firstFault 7 = .ok (.if_icmp .eq 5, 3) := by decide +kernel
theorem d_S_firstFault_10 : decode b_S_firstFault 10 = .ok (.iconst 0, 1) := by decide +kernel
theorem d_S_firstFault_11 : decode b_S_firstFault 11 = .ok (.ireturn, 1) := by decide +kernel
theorem d_S_firstFault_12 : decode b_S_firstFault 12 = .ok (.iconst 0, 1) := by decide +kernel
theorem d_S_firstFault_13 : decode b_S_firstFault 13 = .ok (.istore_n 1, 1) := by decide +kernel
theorem d_S_firstFault_14 : decode b_S_firstFault 14 = .ok (.iconst 0, 1) := by decide +kernel
theorem d_S_firstFault_15 : decode b_S_firstFault 15 = .ok (.istore_n 2, 1) := by decide +kernel
theorem d_S_firstFault_16 : decode b_S_firstFault 16 = .ok (.iconst 1, 1) := by decide +kernel
theorem d_S_firstFault_17 : decode b_S_firstFault 17 = .ok (.istore_n 3, 1) := by decide +kernel
theorem d_S_firstFault_18 : decode b_S_firstFault 18 = .ok (.iload_n 3, 1) := by decide +kernel
theorem d_S_firstFault_19 : decode b_S_firstFault 19 = .ok (.aload_n 0, 1) := by decide +kernel
theorem d_S_firstFault_20 : decode b_S_firstFault 20 = .ok (.getfield 15, 3) := by decide +kernel
theorem d_S_firstFault_23 : decode b_S_firstFault 23 = .ok (.if_icmp .ge 134, 3) := by decide +kernel
theorem d_S_firstFault_26 : decode b_S_firstFault 26 = .ok (.aload_n 0, 1) := by decide +kernel
theorem d_S_firstFault_27 : decode b_S_firstFault 27 = .ok (.iload_n 3, 1) := by decide +kernel
theorem d_S_firstFault_28 : decode b_S_firstFault 28 = .ok (.invokevirtual 19, 3) := by decide +kernel
theorem d_S_firstFault_31 : decode b_S_firstFault 31 = .ok (.istore 4, 2) := by decide +kernel
theorem d_S_firstFault_33 : decode b_S_firstFault 33 = .ok (.iload 4, 2) := by decide +kernel
theorem d_S_firstFault_35 : decode b_S_firstFault 35 = .ok (.bipush 70, 2) := by decide +kernel
theorem d_S_firstFault_37 : decode b_S_firstFault 37 = .ok (.if_icmp .ne 49, 3) := by decide +kernel
theorem d_S_firstFault_40 : decode b_S_firstFault 40 = .ok (.iload_n 1, 1) := by decide +kernel
theorem d_S_firstFault_41 : decode b_S_firstFault 41 = .ok (.bipush 6, 2) := by decide +kernel
theorem d_S_firstFault_43 : decode b_S_firstFault 43 = .ok (.if_icmp .ge 43, 3) := by decide +kernel
theorem d_S_firstFault_46 : decode b_S_firstFault 46 = .ok (.aload_n 0, 1) := by decide +kernel
theorem d_S_firstFault_47 : decode b_S_firstFault 47 = .ok (.iload_n 3, 1) := by decide +kernel
theorem d_S_firstFault_48 : decode b_S_firstFault 48 = .ok (.iconst 1, 1) := by decide +kernel
theorem d_S_firstFault_49 : decode b_S_firstFault 49 = .ok (.iadd, 1) := by decide +kernel
theorem d_S_firstFault_50 : decode b_S_firstFault 50 = .ok (.invokevirtual 29, 3) := by decide +kernel
theorem d_S_firstFault_53 : decode b_S_firstFault 53 = .ok (.istore 5, 2) := by decide +kernel
theorem d_S_firstFault_55 : decode b_S_firstFault 55 = .ok (.iload 5, 2) := by decide +kernel
theorem d_S_firstFault_57 : decode b_S_firstFault 57 = .ok (.getstatic 23, 3) := by decide +kernel
theorem d_S_firstFault_60 : decode b_S_firstFault 60 = .ok (.arraylength, 1) := by decide +kernel
theorem d_S_firstFault_61 : decode b_S_firstFault 61 = .ok (.if_icmp .ge 10, 3) := by decide +kernel
theorem d_S_firstFault_64 : decode b_S_firstFault 64 = .ok (.iload_n 3, 1) := by decide +kernel
theorem d_S_firstFault_65 : decode b_S_firstFault 65 = .ok (.iconst 1, 1) := by decide +kernel
theorem d_S_firstFault_66 : decode b_S_firstFault 66 = .ok (.iadd, 1) := by decide +kernel
theorem d_S_firstFault_67 : decode b_S_firstFault 67 = .ok (.iload 5, 2) := by decide +kernel
theorem d_S_firstFault_69 : decode b_S_firstFault 69 = .ok (.iadd, 1) := by decide +kernel
theorem d_S_firstFault_70 : decode b_S_firstFault 70 = .ok (.ireturn, 1) := by decide +kernel
theorem d_S_firstFault_71 : decode b_S_firstFault 71 = .ok (.iinc 1 1, 3) := by decide +kernel
theorem d_S_firstFault_74 : decode b_S_firstFault 74 = .ok (.iload_n 3, 1) := by decide +kernel
theorem d_S_firstFault_75 : decode b_S_firstFault 75 = .ok (.getstatic 23, 3) := by decide +kernel
theorem d_S_firstFault_78 : decode b_S_firstFault 78 = .ok (.arraylength, 1) := by decide +kernel
theorem d_S_firstFault_79 : decode b_S_firstFault 79 = .ok (.iconst 1, 1) := by decide +kernel
theorem d_S_firstFault_80 : decode b_S_firstFault 80 = .ok (.iadd, 1) := by decide +kernel
theorem d_S_firstFault_81 : decode b_S_firstFault 81 = .ok (.iadd, 1) := by decide +kernel
theorem d_S_firstFault_82 : decode b_S_firstFault 82 = .ok (.istore_n 3, 1) := by decide +kernel
theorem d_S_firstFault_83 : decode b_S_firstFault 83 = .ok (.goto 71, 3) := by decide +kernel
theorem d_S_firstFault_86 : decode b_S_firstFault 86 = .ok (.iload 4, 2) := by decide +kernel
theorem d_S_firstFault_88 : decode b_S_firstFault 88 = .ok (.bipush 73, 2) := by decide +kernel
theorem d_S_firstFault_90 : decode b_S_firstFault 90 = .ok (.if_icmp .ne 62, 3) := by decide +kernel
theorem d_S_firstFault_93 : decode b_S_firstFault 93 = .ok (.iload_n 2, 1) := by decide +kernel
theorem d_S_firstFault_94 : decode b_S_firstFault 94 = .ok (.invokestatic 32, 3) := by decide +kernel
theorem d_S_firstFault_97 : decode b_S_firstFault 97 = .ok (.iload_n 1, 1) := by decide +kernel
theorem d_S_firstFault_98 : decode b_S_firstFault 98 = .ok (.iconst 1, 1) := by decide +kernel
theorem d_S_firstFault_99 : decode b_S_firstFault 99 = .ok (.isub, 1) := by decide +kernel
theorem d_S_firstFault_100 : decode b_S_firstFault 100 = .ok (.if_icmp .ge 52, 3) := by decide +kernel
theorem d_S_firstFault_103 : decode b_S_firstFault 103 = .ok (.aload_n 0, 1) := by decide +kernel
theorem d_S_firstFault_104 : decode b_S_firstFault 104 = .ok (.iload_n 3, 1) := by decide +kernel
theorem d_S_firstFault_105 : decode b_S_firstFault 105 = .ok (.iconst 1, 1) := by decide +kernel
theorem d_S_firstFault_106 : decode b_S_firstFault 106 = .ok (.iadd, 1) := by decide +kernel
theorem d_S_firstFault_107 : decode b_S_firstFault 107 = .ok (.invokevirtual 26, 3) := by decide +kernel
theorem d_S_firstFault_110 : decode b_S_firstFault 110 = .ok (.istore 5, 2) := by decide +kernel
theorem d_S_firstFault_112 : decode b_S_firstFault 112 = .ok (.iload 5, 2) := by decide +kernel
theorem d_S_firstFault_114 : decode b_S_firstFault 114 = .ok (.ifCond .lt 20, 3) := by decide +kernel
theorem d_S_firstFault_117 : decode b_S_firstFault 117 = .ok (.iload 5, 2) := by decide +kernel
theorem d_S_firstFault_119 : decode b_S_firstFault 119 = .ok (.iload_n 1, 1) := by decide +kernel
theorem d_S_firstFault_120 : decode b_S_firstFault 120 = .ok (.iconst 1, 1) := by decide +kernel
theorem d_S_firstFault_121 : decode b_S_firstFault 121 = .ok (.isub, 1) := by decide +kernel
theorem d_S_firstFault_122 : decode b_S_firstFault 122 = .ok (.if_icmp .ge 12, 3) := by decide +kernel
theorem d_S_firstFault_125 : decode b_S_firstFault 125 = .ok (.iload_n 2, 1) := by decide +kernel
theorem d_S_firstFault_126 : decode b_S_firstFault 126 = .ok (.iload 5, 2) := by decide +kernel
theorem d_S_firstFault_128 : decode b_S_firstFault 128 = .ok (.invokestatic 37, 3) := by decide +kernel
theorem d_S_firstFault_131 : decode b_S_firstFault 131 = .ok (.ifCond .eq 7, 3) := by decide +kernel
theorem d_S_firstFault_134 : decode b_S_firstFault 134 = .ok (.iload_n 3, 1) := by decide +kernel
theorem d_S_firstFault_135 : decode b_S_firstFault 135 = .ok (.iconst 1, 1) := by decide +kernel
theorem d_S_firstFault_136 : decode b_S_firstFault 136 = .ok (.iadd, 1) := by decide +kernel
theorem d_S_firstFault_137 : decode b_S_firstFault 137 = .ok (.ireturn, 1) := by decide +kernel
theorem d_S_firstFault_138 : decode b_S_firstFault 138 = .ok (.iload_n 2, 1) := by decide +kernel
theorem d_S_firstFault_139 : decode b_S_firstFault 139 = .ok (.iload 5, 2) := by decide +kernel
theorem d_S_firstFault_141 : decode b_S_firstFault 141 = .ok (.invokestatic 41, 3) := by decide +kernel
theorem d_S_firstFault_144 : decode b_S_firstFault 144 = .ok (.ior, 1) := by decide +kernel
theorem d_S_firstFault_145 : decode b_S_firstFault 145 = .ok (.istore_n 2, 1) := by decide +kernel
theorem d_S_firstFault_146 : decode b_S_firstFault 146 = .ok (.iinc 3 2, 3) := by decide +kernel
theorem d_S_firstFault_149 : decode b_S_firstFault 149 = .ok (.goto 5, 3) := by decide +kernel
theorem d_S_firstFault_152 : decode b_S_firstFault 152 = .ok (.iload_n 3, 1) := by decide +kernel
theorem d_S_firstFault_153 : decode b_S_firstFault 153 = .ok (.ireturn, 1) := by decide +kernel
theorem d_S_firstFault_154 : decode b_S_firstFault 154 = .ok (.goto (-136), 3) := by decide +kernel
theorem d_S_firstFault_157 : decode b_S_firstFault 157 = .ok (.bipush (-9), 2) := by decide +kernel
theorem d_S_firstFault_159 : decode b_S_firstFault 159 = .ok (.ireturn, 1) := by decide +kernel
abbrev b_I_bitCount : ByteArray := prog_6_method_49_code
def y_I_bitCount : MethodName := ⟨"java/lang/Integer", "bitCount", "(I)I"⟩
theorem mc_I_bitCount : Cond.code y_I_bitCount b_I_bitCount 1 (Option.some .int) ∈ lw_use := g_use (List.mem_of_getElem? (i := 208) (by decide +kernel)) rfl
theorem d_I_bitCount_0 : decode b_I_bitCount 0 = .ok (.iload_n 0, 1) := by decide +kernel
theorem d_I_bitCount_1 : decode b_I_bitCount 1 = .ok (.iload_n 0, 1) := by decide +kernel
theorem d_I_bitCount_2 : decode b_I_bitCount 2 = .ok (.iconst 1, 1) := by decide +kernel
theorem d_I_bitCount_3 : decode b_I_bitCount 3 = .ok (.iushr, 1) := by decide +kernel
theorem d_I_bitCount_4 : decode b_I_bitCount 4 = .ok (.ldc_w 265, 3) := by decide +kernel
theorem d_I_bitCount_7 : decode b_I_bitCount 7 = .ok (.iand, 1) := by decide +kernel
theorem d_I_bitCount_8 : decode b_I_bitCount 8 = .ok (.isub, 1) := by decide +kernel
theorem d_I_bitCount_9 : decode b_I_bitCount 9 = .ok (.istore_n 0, 1) := by decide +kernel
theorem d_I_bitCount_10 : decode b_I_bitCount 10 = .ok (.iload_n 0, 1) := by decide +kernel
theorem d_I_bitCount_11 : decode b_I_bitCount 11 = .ok (.ldc_w 266, 3) := by decide +kernel
theorem d_I_bitCount_14 : decode b_I_bitCount 14 = .ok (.iand, 1) := by decide +kernel
theorem d_I_bitCount_15 : decode b_I_bitCount 15 = .ok (.iload_n 0, 1) := by decide +kernel
theorem d_I_bitCount_16 : decode b_I_bitCount 16 = .ok (.iconst 2, 1) := by decide +kernel
theorem d_I_bitCount_17 : decode b_I_bitCount 17 = .ok (.iushr, 1) := by decide +kernel
theorem d_I_bitCount_18 : decode b_I_bitCount 18 = .ok (.ldc_w 266, 3) := by decide +kernel
theorem d_I_bitCount_21 : decode b_I_bitCount 21 = .ok (.iand, 1) := by decide +kernel
theorem d_I_bitCount_22 : decode b_I_bitCount 22 = .ok (.iadd, 1) := by decide +kernel
theorem d_I_bitCount_23 : decode b_I_bitCount 23 = .ok (.istore_n 0, 1) := by decide +kernel
theorem d_I_bitCount_24 : decode b_I_bitCount 24 = .ok (.iload_n 0, 1) := by decide +kernel
theorem d_I_bitCount_25 : decode b_I_bitCount 25 = .ok (.iload_n 0, 1) := by decide +kernel
theorem d_I_bitCount_26 : decode b_I_bitCount 26 = .ok (.iconst 4, 1) := by decide +kernel
theorem d_I_bitCount_27 : decode b_I_bitCount 27 = .ok (.iushr, 1) := by decide +kernel
theorem d_I_bitCount_28 : decode b_I_bitCount 28 = .ok (.iadd, 1) := by decide +kernel
theorem d_I_bitCount_29 : decode b_I_bitCount 29 = .ok (.ldc_w 267, 3) := by decide +kernel
theorem d_I_bitCount_32 : decode b_I_bitCount 32 = .ok (.iand, 1) := by decide +kernel
theorem d_I_bitCount_33 : decode b_I_bitCount 33 = .ok (.istore_n 0, 1) := by decide +kernel
theorem d_I_bitCount_34 : decode b_I_bitCount 34 = .ok (.iload_n 0, 1) := by decide +kernel
theorem d_I_bitCount_35 : decode b_I_bitCount 35 = .ok (.iload_n 0, 1) := by decide +kernel
theorem d_I_bitCount_36 : decode b_I_bitCount 36 = .ok (.bipush 8, 2) := by decide +kernel
theorem d_I_bitCount_38 : decode b_I_bitCount 38 = .ok (.iushr, 1) := by decide +kernel
theorem d_I_bitCount_39 : decode b_I_bitCount 39 = .ok (.iadd, 1) := by decide +kernel
theorem d_I_bitCount_40 : decode b_I_bitCount 40 = .ok (.istore_n 0, 1) := by decide +kernel
theorem d_I_bitCount_41 : decode b_I_bitCount 41 = .ok (.iload_n 0, 1) := by decide +kernel
theorem d_I_bitCount_42 : decode b_I_bitCount 42 = .ok (.iload_n 0, 1) := by decide +kernel
theorem d_I_bitCount_43 : decode b_I_bitCount 43 = .ok (.bipush 16, 2) := by decide +kernel
theorem d_I_bitCount_45 : decode b_I_bitCount 45 = .ok (.iushr, 1) := by decide +kernel
theorem d_I_bitCount_46 : decode b_I_bitCount 46 = .ok (.iadd, 1) := by decide +kernel
theorem d_I_bitCount_47 : decode b_I_bitCount 47 = .ok (.istore_n 0, 1) := by decide +kernel
theorem d_I_bitCount_48 : decode b_I_bitCount 48 = .ok (.iload_n 0, 1) := by decide +kernel
theorem d_I_bitCount_49 : decode b_I_bitCount 49 = .ok (.bipush 63, 2) := by decide +kernel
theorem d_I_bitCount_51 : decode b_I_bitCount 51 = .ok (.iand, 1) := by decide +kernel
theorem d_I_bitCount_52 : decode b_I_bitCount 52 = .ok (.ireturn, 1) := by decide +kernel
abbrev b_A_fill : ByteArray := prog_8_method_103_code
def y_A_fill : MethodName := ⟨"java/util/Arrays", "fill", "([II)V"⟩
theorem mc_A_fill : Cond.code y_A_fill b_A_fill 4 none ∈ lw_use := g_use (List.mem_of_getElem? (i := 228) (by decide +kernel)) rfl
theorem d_A_fill_0 : decode b_A_fill 0 = .ok (.iconst 0, 1) := by decide +kernel
theorem d_A_fill_1 : decode b_A_fill 1 = .ok (.istore_n 2, 1) := by decide +kernel
theorem d_A_fill_2 : decode b_A_fill 2 = .ok (.aload_n 0, 1) := by decide +kernel
theorem d_A_fill_3 : decode b_A_fill 3 = .ok (.arraylength, 1) := by decide +kernel
theorem d_A_fill_4 : decode b_A_fill 4 = .ok (.istore_n 3, 1) := by decide +kernel
theorem d_A_fill_5 : decode b_A_fill 5 = .ok (.iload_n 2, 1) := by decide +kernel
theorem d_A_fill_6 : decode b_A_fill 6 = .ok (.iload_n 3, 1) := by decide +kernel
theorem d_A_fill_7 : decode b_A_fill 7 = .ok (.if_icmp .ge 13, 3) := by decide +kernel
theorem d_A_fill_10 : decode b_A_fill 10 = .ok (.aload_n 0, 1) := by decide +kernel
theorem d_A_fill_11 : decode b_A_fill 11 = .ok (.iload_n 2, 1) := by decide +kernel
theorem d_A_fill_12 : decode b_A_fill 12 = .ok (.iload_n 1, 1) := by decide +kernel
theorem d_A_fill_13 : decode b_A_fill 13 = .ok (.iastore, 1) := by decide +kernel
theorem d_A_fill_14 : decode b_A_fill 14 = .ok (.iinc 2 1, 3) := by decide +kernel
theorem d_A_fill_17 : decode b_A_fill 17 = .ok (.goto (-12), 3) := by decide +kernel
theorem d_A_fill_20 : decode b_A_fill 20 = .ok (.return_, 1) := by decide +kernel
end
section
/-! The reference: the same. -/
abbrev b_M_init : ByteArray := prog_5_method_1_code
def y_M_init : MethodName := ⟨R_M, "<init>", "()V"⟩
theorem mc_M_init : Cond.code y_M_init b_M_init 1 none ∈ lw_use := g_use (List.mem_of_getElem? (i := 469) (by decide +kernel)) rfl
theorem d_M_init_0 : decode b_M_init 0 = .ok (.aload_n 0, 1) := by decide +kernel
theorem d_M_init_1 : decode b_M_init 1 = .ok (.invokespecial 1, 3) := by decide +kernel
theorem d_M_init_4 : decode b_M_init 4 = .ok (.aload_n 0, 1) := by decide +kernel
theorem d_M_init_5 : decode b_M_init 5 = .ok (.bipush 48, 2) := by decide +kernel
theorem d_M_init_7 : decode b_M_init 7 = .ok (.newarray .int, 2) := by decide +kernel
theorem d_M_init_9 : decode b_M_init 9 = .ok (.putfield 7, 3) := by decide +kernel
theorem d_M_init_12 : decode b_M_init 12 = .ok (.aload_n 0, 1) := by decide +kernel
theorem d_M_init_13 : decode b_M_init 13 = .ok (.bipush 6, 2) := by decide +kernel
theorem d_M_init_15 : decode b_M_init 15 = .ok (.newarray .int, 2) := by decide +kernel
theorem d_M_init_17 : decode b_M_init 17 = .ok (.putfield 13, 3) := by decide +kernel
theorem d_M_init_20 : decode b_M_init 20 = .ok (.aload_n 0, 1) := by decide +kernel
theorem d_M_init_21 : decode b_M_init 21 = .ok (.bipush 6, 2) := by decide +kernel
theorem d_M_init_23 : decode b_M_init 23 = .ok (.newarray .int, 2) := by decide +kernel
theorem d_M_init_25 : decode b_M_init 25 = .ok (.putfield 16, 3) := by decide +kernel
theorem d_M_init_28 : decode b_M_init 28 = .ok (.aload_n 0, 1) := by decide +kernel
theorem d_M_init_29 : decode b_M_init 29 = .ok (.bipush 6, 2) := by decide +kernel
theorem d_M_init_31 : decode b_M_init 31 = .ok (.newarray .int, 2) := by decide +kernel
theorem d_M_init_33 : decode b_M_init 33 = .ok (.putfield 19, 3) := by decide +kernel
theorem d_M_init_36 : decode b_M_init 36 = .ok (.aload_n 0, 1) := by decide +kernel
theorem d_M_init_37 : decode b_M_init 37 = .ok (.bipush 30, 2) := by decide +kernel
theorem d_M_init_39 : decode b_M_init 39 = .ok (.newarray .int, 2) := by decide +kernel
theorem d_M_init_41 : decode b_M_init 41 = .ok (.putfield 22, 3) := by decide +kernel
theorem d_M_init_44 : decode b_M_init 44 = .ok (.aload_n 0, 1) := by decide +kernel
theorem d_M_init_45 : decode b_M_init 45 = .ok (.bipush 57, 2) := by decide +kernel
theorem d_M_init_47 : decode b_M_init 47 = .ok (.newarray .int, 2) := by decide +kernel
theorem d_M_init_49 : decode b_M_init 49 = .ok (.putfield 25, 3) := by decide +kernel
theorem d_M_init_52 : decode b_M_init 52 = .ok (.aload_n 0, 1) := by decide +kernel
theorem d_M_init_53 : decode b_M_init 53 = .ok (.bipush 57, 2) := by decide +kernel
theorem d_M_init_55 : decode b_M_init 55 = .ok (.newarray .int, 2) := by decide +kernel
theorem d_M_init_57 : decode b_M_init 57 = .ok (.putfield 28, 3) := by decide +kernel
theorem d_M_init_60 : decode b_M_init 60 = .ok (.aload_n 0, 1) := by decide +kernel
theorem d_M_init_61 : decode b_M_init 61 = .ok (.sipush 798, 3) := by decide +kernel
theorem d_M_init_64 : decode b_M_init 64 = .ok (.newarray .int, 2) := by decide +kernel
theorem d_M_init_66 : decode b_M_init 66 = .ok (.putfield 31, 3) := by decide +kernel
theorem d_M_init_69 : decode b_M_init 69 = .ok (.aload_n 0, 1) := by decide +kernel
theorem d_M_init_70 : decode b_M_init 70 = .ok (.bipush 114, 2) := by decide +kernel
theorem d_M_init_72 : decode b_M_init 72 = .ok (.newarray .int, 2) := by decide +kernel
theorem d_M_init_74 : decode b_M_init 74 = .ok (.putfield 34, 3) := by decide +kernel
theorem d_M_init_77 : decode b_M_init 77 = .ok (.aload_n 0, 1) := by decide +kernel
theorem d_M_init_78 : decode b_M_init 78 = .ok (.iconst 2, 1) := by decide +kernel
theorem d_M_init_79 : decode b_M_init 79 = .ok (.newarray .boolean, 2) := by decide +kernel
theorem d_M_init_81 : decode b_M_init 81 = .ok (.putfield 37, 3) := by decide +kernel
theorem d_M_init_84 : decode b_M_init 84 = .ok (.aload_n 0, 1) := by decide +kernel
theorem d_M_init_85 : decode b_M_init 85 = .ok (.bipush 64, 2) := by decide +kernel
theorem d_M_init_87 : decode b_M_init 87 = .ok (.newarray .int, 2) := by decide +kernel
theorem d_M_init_89 : decode b_M_init 89 = .ok (.putfield 41, 3) := by decide +kernel
theorem d_M_init_92 : decode b_M_init 92 = .ok (.aload_n 0, 1) := by decide +kernel
theorem d_M_init_93 : decode b_M_init 93 = .ok (.bipush 64, 2) := by decide +kernel
theorem d_M_init_95 : decode b_M_init 95 = .ok (.newarray .int, 2) := by decide +kernel
theorem d_M_init_97 : decode b_M_init 97 = .ok (.putfield 44, 3) := by decide +kernel
theorem d_M_init_100 : decode b_M_init 100 = .ok (.return_, 1) := by decide +kernel
abbrev b_M_in : ByteArray := prog_5_method_3_code
def y_M_in : MethodName := ⟨R_M, "in", "(JJJ)Z"⟩
theorem mc_M_in : Cond.code y_M_in b_M_in 6 (Option.some .boolean) ∈ lw_use := g_use (List.mem_of_getElem? (i := 552) (by decide +kernel)) rfl
theorem d_M_in_0 : decode b_M_in 0 = .ok (.lload_n 0, 1) := by decide +kernel
theorem d_M_in_1 : decode b_M_in 1 = .ok (.lload_n 2, 1) := by decide +kernel
theorem d_M_in_2 : decode b_M_in 2 = .ok (.lcmp, 1) := by decide +kernel
theorem d_M_in_3 : decode b_M_in 3 = .ok (.ifCond .lt 14, 3) := by decide +kernel
theorem d_M_in_6 : decode b_M_in 6 = .ok (.lload_n 0, 1) := by decide +kernel
theorem d_M_in_7 : decode b_M_in 7 = .ok (.lload 4, 2) := by decide +kernel
theorem d_M_in_9 : decode b_M_in 9 = .ok (.lcmp, 1) := by decide +kernel
theorem d_M_in_10 : decode b_M_in 10 = .ok (.ifCond .gt 7, 3) := by decide +kernel
theorem d_M_in_13 : decode b_M_in 13 = .ok (.iconst 1, 1) := by decide +kernel
theorem d_M_in_14 : decode b_M_in 14 = .ok (.goto 4, 3) := by decide +kernel
theorem d_M_in_17 : decode b_M_in 17 = .ok (.iconst 0, 1) := by decide +kernel
theorem d_M_in_18 : decode b_M_in 18 = .ok (.ireturn, 1) := by decide +kernel
abbrev b_M_has : ByteArray := prog_5_method_4_code
def y_M_has : MethodName := ⟨R_M, "has", "(II)Z"⟩
theorem mc_M_has : Cond.code y_M_has b_M_has 2 (Option.some .boolean) ∈ lw_use := g_use (List.mem_of_getElem? (i := 587) (by decide +kernel)) rfl
theorem d_M_has_0 : decode b_M_has 0 = .ok (.iload_n 0, 1) := by decide +kernel
theorem d_M_has_1 : decode b_M_has 1 = .ok (.iload_n 1, 1) := by decide +kernel
theorem d_M_has_2 : decode b_M_has 2 = .ok (.ishr, 1) := by decide +kernel
theorem d_M_has_3 : decode b_M_has 3 = .ok (.iconst 1, 1) := by decide +kernel
theorem d_M_has_4 : decode b_M_has 4 = .ok (.iand, 1) := by decide +kernel
theorem d_M_has_5 : decode b_M_has 5 = .ok (.iconst 1, 1) := by decide +kernel
theorem d_M_has_6 : decode b_M_has 6 = .ok (.if_icmp .ne 7, 3) := by decide +kernel
theorem d_M_has_9 : decode b_M_has 9 = .ok (.iconst 1, 1) := by decide +kernel
theorem d_M_has_10 : decode b_M_has 10 = .ok (.goto 4, 3) := by decide +kernel
theorem d_M_has_13 : decode b_M_has 13 = .ok (.iconst 0, 1) := by decide +kernel
theorem d_M_has_14 : decode b_M_has 14 = .ok (.ireturn, 1) := by decide +kernel
abbrev b_M_many : ByteArray := prog_5_method_5_code
def y_M_many : MethodName := ⟨R_M, "many", "(I)I"⟩
theorem mc_M_many : Cond.code y_M_many b_M_many 3 (Option.some .int) ∈ lw_use := g_use (List.mem_of_getElem? (i := 747) (by decide +kernel)) rfl
theorem d_M_many_0 : decode b_M_many 0 = .ok (.iconst 0, 1) := by decide +kernel
theorem d_M_many_1 : decode b_M_many 1 = .ok (.istore_n 1, 1) := by decide +kernel
theorem d_M_many_2 : decode b_M_many 2 = .ok (.iconst 0, 1) := by decide +kernel
theorem d_M_many_3 : decode b_M_many 3 = .ok (.istore_n 2, 1) := by decide +kernel
theorem d_M_many_4 : decode b_M_many 4 = .ok (.iload_n 2, 1) := by decide +kernel
theorem d_M_many_5 : decode b_M_many 5 = .ok (.bipush 6, 2) := by decide +kernel
theorem d_M_many_7 : decode b_M_many 7 = .ok (.if_icmp .ge 17, 3) := by decide +kernel
theorem d_M_many_10 : decode b_M_many 10 = .ok (.iload_n 1, 1) := by decide +kernel
theorem d_M_many_11 : decode b_M_many 11 = .ok (.iload_n 0, 1) := by decide +kernel
theorem d_M_many_12 : decode b_M_many 12 = .ok (.iload_n 2, 1) := by decide +kernel
theorem d_M_many_13 : decode b_M_many 13 = .ok (.ishr, 1) := by decide +kernel
theorem d_M_many_14 : decode b_M_many 14 = .ok (.iconst 1, 1) := by decide +kernel
theorem d_M_many_15 : decode b_M_many 15 = .ok (.iand, 1) := by decide +kernel
theorem d_M_many_16 : decode b_M_many 16 = .ok (.iadd, 1) := by decide +kernel
theorem d_M_many_17 : decode b_M_many 17 = .ok (.istore_n 1, 1) := by decide +kernel
theorem d_M_many_18 : decode b_M_many 18 = .ok (.iinc 2 1, 3) := by decide +kernel
theorem d_M_many_21 : decode b_M_many 21 = .ok (.goto (-17), 3) := by decide +kernel
theorem d_M_many_24 : decode b_M_many 24 = .ok (.iload_n 1, 1) := by decide +kernel
theorem d_M_many_25 : decode b_M_many 25 = .ok (.ireturn, 1) := by decide +kernel
abbrev b_M_noFarm : ByteArray := prog_5_method_6_code
def y_M_noFarm : MethodName := ⟨R_M, "noFarm", "(I)Z"⟩
theorem mc_M_noFarm : Cond.code y_M_noFarm b_M_noFarm 2 (Option.some .boolean) ∈ lw_use := g_use (List.mem_of_getElem? (i := 611) (by decide +kernel)) rfl
theorem d_M_noFarm_0 : decode b_M_noFarm 0 = .ok (.iload_n 1, 1) := by decide +kernel
theorem d_M_noFarm_1 : decode b_M_noFarm 1 = .ok (.i2l, 1) := by decide +kernel
theorem d_M_noFarm_2 : decode b_M_noFarm 2 = .ok (.lconst 0, 1) := by decide +kernel
theorem d_M_noFarm_3 : decode b_M_noFarm 3 = .ok (.aload_n 0, 1) := by decide +kernel
theorem d_M_noFarm_4 : decode b_M_noFarm 4 = .ok (.getfield 51, 3) := by decide +kernel
theorem d_M_noFarm_7 : decode b_M_noFarm 7 = .ok (.iconst 1, 1) := by decide +kernel
theorem d_M_noFarm_8 : decode b_M_noFarm 8 = .ok (.isub, 1) := by decide +kernel
theorem d_M_noFarm_9 : decode b_M_noFarm 9 = .ok (.i2l, 1) := by decide +kernel
theorem d_M_noFarm_10 : decode b_M_noFarm 10 = .ok (.invokestatic 54, 3) := by decide +kernel
theorem d_M_noFarm_13 : decode b_M_noFarm 13 = .ok (.ifCond .ne 7, 3) := by decide +kernel
theorem d_M_noFarm_16 : decode b_M_noFarm 16 = .ok (.iconst 1, 1) := by decide +kernel
theorem d_M_noFarm_17 : decode b_M_noFarm 17 = .ok (.goto 4, 3) := by decide +kernel
theorem d_M_noFarm_20 : decode b_M_noFarm 20 = .ok (.iconst 0, 1) := by decide +kernel
theorem d_M_noFarm_21 : decode b_M_noFarm 21 = .ok (.ireturn, 1) := by decide +kernel
abbrev b_M_noStorm : ByteArray := prog_5_method_7_code
def y_M_noStorm : MethodName := ⟨R_M, "noStorm", "(I)Z"⟩
theorem mc_M_noStorm : Cond.code y_M_noStorm b_M_noStorm 1 (Option.some .boolean) ∈ lw_use := g_use (List.mem_of_getElem? (i := 626) (by decide +kernel)) rfl
theorem d_M_noStorm_0 : decode b_M_noStorm 0 = .ok (.iload_n 0, 1) := by decide +kernel
theorem d_M_noStorm_1 : decode b_M_noStorm 1 = .ok (.i2l, 1) := by decide +kernel
theorem d_M_noStorm_2 : decode b_M_noStorm 2 = .ok (.lconst 0, 1) := by decide +kernel
theorem d_M_noStorm_3 : decode b_M_noStorm 3 = .ok (.ldc2_w 58, 3) := by decide +kernel
theorem d_M_noStorm_6 : decode b_M_noStorm 6 = .ok (.invokestatic 54, 3) := by decide +kernel
theorem d_M_noStorm_9 : decode b_M_noStorm 9 = .ok (.ifCond .ne 7, 3) := by decide +kernel
theorem d_M_noStorm_12 : decode b_M_noStorm 12 = .ok (.iconst 1, 1) := by decide +kernel
theorem d_M_noStorm_13 : decode b_M_noStorm 13 = .ok (.goto 4, 3) := by decide +kernel
theorem d_M_noStorm_16 : decode b_M_noStorm 16 = .ok (.iconst 0, 1) := by decide +kernel
theorem d_M_noStorm_17 : decode b_M_noStorm 17 = .ok (.ireturn, 1) := by decide +kernel
abbrev b_M_everyone : ByteArray := prog_5_method_8_code
def y_M_everyone : MethodName := ⟨R_M, "everyone", "()I"⟩
theorem mc_M_everyone : Cond.code y_M_everyone b_M_everyone 1 (Option.some .int) ∈ lw_use := g_use (List.mem_of_getElem? (i := 599) (by decide +kernel)) rfl
theorem d_M_everyone_0 : decode b_M_everyone 0 = .ok (.iconst 1, 1) := by decide +kernel
theorem d_M_everyone_1 : decode b_M_everyone 1 = .ok (.aload_n 0, 1) := by decide +kernel
theorem d_M_everyone_2 : decode b_M_everyone 2 = .ok (.getfield 51, 3) := by decide +kernel
theorem d_M_everyone_5 : decode b_M_everyone 5 = .ok (.ishl, 1) := by decide +kernel
theorem d_M_everyone_6 : decode b_M_everyone 6 = .ok (.iconst 1, 1) := by decide +kernel
theorem d_M_everyone_7 : decode b_M_everyone 7 = .ok (.isub, 1) := by decide +kernel
theorem d_M_everyone_8 : decode b_M_everyone 8 = .ok (.ireturn, 1) := by decide +kernel
abbrev b_M_write : ByteArray := prog_5_method_9_code
def y_M_write : MethodName := ⟨R_M, "write", "(I)I"⟩
theorem mc_M_write : Cond.code y_M_write b_M_write 2 (Option.some .int) ∈ lw_use := g_use (List.mem_of_getElem? (i := 548) (by decide +kernel)) rfl
theorem d_M_write_0 : decode b_M_write 0 = .ok (.aload_n 0, 1) := by decide +kernel
theorem d_M_write_1 : decode b_M_write 1 = .ok (.iconst 0, 1) := by decide +kernel
theorem d_M_write_2 : decode b_M_write 2 = .ok (.putfield 47, 3) := by decide +kernel
theorem d_M_write_5 : decode b_M_write 5 = .ok (.iload_n 1, 1) := by decide +kernel
theorem d_M_write_6 : decode b_M_write 6 = .ok (.i2l, 1) := by decide +kernel
theorem d_M_write_7 : decode b_M_write 7 = .ok (.lconst 0, 1) := by decide +kernel
theorem d_M_write_8 : decode b_M_write 8 = .ok (.ldc2_w 60, 3) := by decide +kernel
theorem d_M_write_11 : decode b_M_write 11 = .ok (.invokestatic 54, 3) := by decide +kernel
theorem d_M_write_14 : decode b_M_write 14 = .ok (.ifCond .ne 6, 3) := by decide +kernel
theorem d_M_write_17 : decode b_M_write 17 = .ok (.bipush (-2), 2) := by decide +kernel
theorem d_M_write_19 : decode b_M_write 19 = .ok (.ireturn, 1) := by decide +kernel
theorem d_M_write_20 : decode b_M_write 20 = .ok (.aload_n 0, 1) := by decide +kernel
theorem d_M_write_21 : decode b_M_write 21 = .ok (.getfield 62, 3) := by decide +kernel
theorem d_M_write_24 : decode b_M_write 24 = .ok (.bipush 48, 2) := by decide +kernel
theorem d_M_write_26 : decode b_M_write 26 = .ok (.if_icmp .ne 6, 3) := by decide +kernel
theorem d_M_write_29 : decode b_M_write 29 = .ok (.bipush (-4), 2) := by decide +kernel
theorem d_M_write_31 : decode b_M_write 31 = .ok (.ireturn, 1) := by decide +kernel
theorem d_M_write_32 : decode b_M_write 32 = .ok (.aload_n 0, 1) := by decide +kernel
theorem d_M_write_33 : decode b_M_write 33 = .ok (.getfield 7, 3) := by decide +kernel
theorem d_M_write_36 : decode b_M_write 36 = .ok (.aload_n 0, 1) := by decide +kernel
theorem d_M_write_37 : decode b_M_write 37 = .ok (.getfield 62, 3) := by decide +kernel
theorem d_M_write_40 : decode b_M_write 40 = .ok (.iload_n 1, 1) := by decide +kernel
theorem d_M_write_41 : decode b_M_write 41 = .ok (.iastore, 1) := by decide +kernel
theorem d_M_write_42 : decode b_M_write 42 = .ok (.aload_n 0, 1) := by decide +kernel
theorem d_M_write_43 : decode b_M_write 43 = .ok (.dup, 1) := by decide +kernel
theorem d_M_write_44 : decode b_M_write 44 = .ok (.getfield 62, 3) := by decide +kernel
theorem d_M_write_47 : decode b_M_write 47 = .ok (.iconst 1, 1) := by decide +kernel
theorem d_M_write_48 : decode b_M_write 48 = .ok (.iadd, 1) := by decide +kernel
theorem d_M_write_49 : decode b_M_write 49 = .ok (.putfield 62, 3) := by decide +kernel
theorem d_M_write_52 : decode b_M_write 52 = .ok (.aload_n 0, 1) := by decide +kernel
theorem d_M_write_53 : decode b_M_write 53 = .ok (.getfield 62, 3) := by decide +kernel
theorem d_M_write_56 : decode b_M_write 56 = .ok (.ireturn, 1) := by decide +kernel
abbrev b_M_wipe : ByteArray := prog_5_method_10_code
def y_M_wipe : MethodName := ⟨R_M, "wipe", "()I"⟩
theorem mc_M_wipe : Cond.code y_M_wipe b_M_wipe 2 (Option.some .int) ∈ lw_use := g_use (List.mem_of_getElem? (i := 556) (by decide +kernel)) rfl
theorem d_M_wipe_0 : decode b_M_wipe 0 = .ok (.aload_n 0, 1) := by decide +kernel
theorem d_M_wipe_1 : decode b_M_wipe 1 = .ok (.iconst 0, 1) := by decide +kernel
theorem d_M_wipe_2 : decode b_M_wipe 2 = .ok (.putfield 47, 3) := by decide +kernel
theorem d_M_wipe_5 : decode b_M_wipe 5 = .ok (.aload_n 0, 1) := by decide +kernel
theorem d_M_wipe_6 : decode b_M_wipe 6 = .ok (.getfield 62, 3) := by decide +kernel
theorem d_M_wipe_9 : decode b_M_wipe 9 = .ok (.istore_n 1, 1) := by decide +kernel
theorem d_M_wipe_10 : decode b_M_wipe 10 = .ok (.aload_n 0, 1) := by decide +kernel
theorem d_M_wipe_11 : decode b_M_wipe 11 = .ok (.iconst 0, 1) := by decide +kernel
theorem d_M_wipe_12 : decode b_M_wipe 12 = .ok (.putfield 62, 3) := by decide +kernel
theorem d_M_wipe_15 : decode b_M_wipe 15 = .ok (.iload_n 1, 1) := by decide +kernel
theorem d_M_wipe_16 : decode b_M_wipe 16 = .ok (.ireturn, 1) := by decide +kernel
abbrev b_M_figure : ByteArray := prog_5_method_11_code
def y_M_figure : MethodName := ⟨R_M, "figure", "(II)I"⟩
theorem mc_M_figure : Cond.code y_M_figure b_M_figure 3 (Option.some .int) ∈ lw_use := g_use (List.mem_of_getElem? (i := 576) (by decide +kernel)) rfl
theorem d_M_figure_0 : decode b_M_figure 0 = .ok (.aload_n 0, 1) := by decide +kernel
theorem d_M_figure_1 : decode b_M_figure 1 = .ok (.getfield 65, 3) := by decide +kernel
theorem d_M_figure_4 : decode b_M_figure 4 = .ok (.aload_n 0, 1) := by decide +kernel
theorem d_M_figure_5 : decode b_M_figure 5 = .ok (.getfield 62, 3) := by decide +kernel
theorem d_M_figure_8 : decode b_M_figure 8 = .ok (.if_icmp .eq 26, 3) := by decide +kernel
theorem d_M_figure_11 : decode b_M_figure 11 = .ok (.aload_n 0, 1) := by decide +kernel
theorem d_M_figure_12 : decode b_M_figure 12 = .ok (.getfield 7, 3) := by decide +kernel
theorem d_M_figure_15 : decode b_M_figure 15 = .ok (.aload_n 0, 1) := by decide +kernel
theorem d_M_figure_16 : decode b_M_figure 16 = .ok (.getfield 65, 3) := by decide +kernel
theorem d_M_figure_19 : decode b_M_figure 19 = .ok (.iaload, 1) := by decide +kernel
theorem d_M_figure_20 : decode b_M_figure 20 = .ok (.bipush 48, 2) := by decide +kernel
theorem d_M_figure_22 : decode b_M_figure 22 = .ok (.isub, 1) := by decide +kernel
theorem d_M_figure_23 : decode b_M_figure 23 = .ok (.i2l, 1) := by decide +kernel
theorem d_M_figure_24 : decode b_M_figure 24 = .ok (.iload_n 1, 1) := by decide +kernel
theorem d_M_figure_25 : decode b_M_figure 25 = .ok (.i2l, 1) := by decide +kernel
theorem d_M_figure_26 : decode b_M_figure 26 = .ok (.iload_n 2, 1) := by decide +kernel
theorem d_M_figure_27 : decode b_M_figure 27 = .ok (.i2l, 1) := by decide +kernel
theorem d_M_figure_28 : decode b_M_figure 28 = .ok (.invokestatic 54, 3) := by decide +kernel
theorem d_M_figure_31 : decode b_M_figure 31 = .ok (.ifCond .ne 6, 3) := by decide +kernel
theorem d_M_figure_34 : decode b_M_figure 34 = .ok (.bipush (-9), 2) := by decide +kernel
theorem d_M_figure_36 : decode b_M_figure 36 = .ok (.ireturn, 1) := by decide +kernel
theorem d_M_figure_37 : decode b_M_figure 37 = .ok (.aload_n 0, 1) := by decide +kernel
theorem d_M_figure_38 : decode b_M_figure 38 = .ok (.dup, 1) := by decide +kernel
theorem d_M_figure_39 : decode b_M_figure 39 = .ok (.getfield 65, 3) := by decide +kernel
theorem d_M_figure_42 : decode b_M_figure 42 = .ok (.iconst 1, 1) := by decide +kernel
theorem d_M_figure_43 : decode b_M_figure 43 = .ok (.iadd, 1) := by decide +kernel
theorem d_M_figure_44 : decode b_M_figure 44 = .ok (.putfield 65, 3) := by decide +kernel
theorem d_M_figure_47 : decode b_M_figure 47 = .ok (.aload_n 0, 1) := by decide +kernel
theorem d_M_figure_48 : decode b_M_figure 48 = .ok (.getfield 7, 3) := by decide +kernel
theorem d_M_figure_51 : decode b_M_figure 51 = .ok (.aload_n 0, 1) := by decide +kernel
theorem d_M_figure_52 : decode b_M_figure 52 = .ok (.getfield 65, 3) := by decide +kernel
theorem d_M_figure_55 : decode b_M_figure 55 = .ok (.iconst 1, 1) := by decide +kernel
theorem d_M_figure_56 : decode b_M_figure 56 = .ok (.isub, 1) := by decide +kernel
theorem d_M_figure_57 : decode b_M_figure 57 = .ok (.iaload, 1) := by decide +kernel
theorem d_M_figure_58 : decode b_M_figure 58 = .ok (.bipush 48, 2) := by decide +kernel
theorem d_M_figure_60 : decode b_M_figure 60 = .ok (.isub, 1) := by decide +kernel
theorem d_M_figure_61 : decode b_M_figure 61 = .ok (.ireturn, 1) := by decide +kernel
abbrev b_M_readFarm : ByteArray := prog_5_method_12_code
def y_M_readFarm : MethodName := ⟨R_M, "readFarm", "()Z"⟩
theorem mc_M_readFarm : Cond.code y_M_readFarm b_M_readFarm 4 (Option.some .boolean) ∈ lw_use := g_use (List.mem_of_getElem? (i := 572) (by decide +kernel)) rfl
theorem d_M_readFarm_0 : decode b_M_readFarm 0 = .ok (.iconst 5, 1) := by decide +kernel
theorem d_M_readFarm_1 : decode b_M_readFarm 1 = .ok (.aload_n 0, 1) := by decide +kernel
theorem d_M_readFarm_2 : decode b_M_readFarm 2 = .ok (.getfield 68, 3) := by decide +kernel
theorem d_M_readFarm_5 : decode b_M_readFarm 5 = .ok (.imul, 1) := by decide +kernel
theorem d_M_readFarm_6 : decode b_M_readFarm 6 = .ok (.istore_n 1, 1) := by decide +kernel
theorem d_M_readFarm_7 : decode b_M_readFarm 7 = .ok (.iconst 0, 1) := by decide +kernel
theorem d_M_readFarm_8 : decode b_M_readFarm 8 = .ok (.istore_n 2, 1) := by decide +kernel
theorem d_M_readFarm_9 : decode b_M_readFarm 9 = .ok (.iload_n 2, 1) := by decide +kernel
theorem d_M_readFarm_10 : decode b_M_readFarm 10 = .ok (.iconst 5, 1) := by decide +kernel
theorem d_M_readFarm_11 : decode b_M_readFarm 11 = .ok (.if_icmp .ge 48, 3) := by decide +kernel
theorem d_M_readFarm_14 : decode b_M_readFarm 14 = .ok (.aload_n 0, 1) := by decide +kernel
theorem d_M_readFarm_15 : decode b_M_readFarm 15 = .ok (.iconst 0, 1) := by decide +kernel
theorem d_M_readFarm_16 : decode b_M_readFarm 16 = .ok (.iload_n 2, 1) := by decide +kernel
theorem d_M_readFarm_17 : decode b_M_readFarm 17 = .ok (.iconst 1, 1) := by decide +kernel
theorem d_M_readFarm_18 : decode b_M_readFarm 18 = .ok (.if_icmp .eq 8, 3) := by decide +kernel
theorem d_M_readFarm_21 : decode b_M_readFarm 21 = .ok (.iload_n 2, 1) := by decide +kernel
theorem d_M_readFarm_22 : decode b_M_readFarm 22 = .ok (.iconst 4, 1) := by decide +kernel
theorem d_M_readFarm_23 : decode b_M_readFarm 23 = .ok (.if_icmp .ne 7, 3) := by decide +kernel
theorem d_M_readFarm_26 : decode b_M_readFarm 26 = .ok (.iconst 3, 1) := by decide +kernel
theorem d_M_readFarm_27 : decode b_M_readFarm 27 = .ok (.goto 5, 3) := by decide +kernel
theorem d_M_readFarm_30 : decode b_M_readFarm 30 = .ok (.bipush 9, 2) := by decide +kernel
theorem d_M_readFarm_32 : decode b_M_readFarm 32 = .ok (.invokevirtual 71, 3) := by decide +kernel
theorem d_M_readFarm_35 : decode b_M_readFarm 35 = .ok (.istore_n 3, 1) := by decide +kernel
theorem d_M_readFarm_36 : decode b_M_readFarm 36 = .ok (.iload_n 3, 1) := by decide +kernel
theorem d_M_readFarm_37 : decode b_M_readFarm 37 = .ok (.bipush (-9), 2) := by decide +kernel
theorem d_M_readFarm_39 : decode b_M_readFarm 39 = .ok (.if_icmp .ne 5, 3) := by decide +kernel
theorem d_M_readFarm_42 : decode b_M_readFarm 42 = .ok (.iconst 0, 1) := by decide +kernel
theorem d_M_readFarm_43 : decode b_M_readFarm 43 = .ok (.ireturn, 1) := by decide +kernel
theorem d_M_readFarm_44 : decode b_M_readFarm 44 = .ok (.aload_n 0, 1) := by decide +kernel
theorem d_M_readFarm_45 : decode b_M_readFarm 45 = .ok (.getfield 22, 3) := by decide +kernel
theorem d_M_readFarm_48 : decode b_M_readFarm 48 = .ok (.iload_n 1, 1) := by decide +kernel
theorem d_M_readFarm_49 : decode b_M_readFarm 49 = .ok (.iload_n 2, 1) := by decide +kernel
theorem d_M_readFarm_50 : decode b_M_readFarm 50 = .ok (.iadd, 1) := by decide +kernel
theorem d_M_readFarm_51 : decode b_M_readFarm 51 = .ok (.iload_n 3, 1) := by decide +kernel
theorem d_M_readFarm_52 : decode b_M_readFarm 52 = .ok (.iastore, 1) := by decide +kernel
theorem d_M_readFarm_53 : decode b_M_readFarm 53 = .ok (.iinc 2 1, 3) := by decide +kernel
theorem d_M_readFarm_56 : decode b_M_readFarm 56 = .ok (.goto (-47), 3) := by decide +kernel
theorem d_M_readFarm_59 : decode b_M_readFarm 59 = .ok (.aload_n 0, 1) := by decide +kernel
theorem d_M_readFarm_60 : decode b_M_readFarm 60 = .ok (.dup, 1) := by decide +kernel
theorem d_M_readFarm_61 : decode b_M_readFarm 61 = .ok (.getfield 68, 3) := by decide +kernel
theorem d_M_readFarm_64 : decode b_M_readFarm 64 = .ok (.iconst 1, 1) := by decide +kernel
theorem d_M_readFarm_65 : decode b_M_readFarm 65 = .ok (.iadd, 1) := by decide +kernel
theorem d_M_readFarm_66 : decode b_M_readFarm 66 = .ok (.putfield 68, 3) := by decide +kernel
theorem d_M_readFarm_69 : decode b_M_readFarm 69 = .ok (.iconst 1, 1) := by decide +kernel
theorem d_M_readFarm_70 : decode b_M_readFarm 70 = .ok (.ireturn, 1) := by decide +kernel
abbrev b_M_readDam : ByteArray := prog_5_method_13_code
def y_M_readDam : MethodName := ⟨R_M, "readDam", "()Z"⟩
theorem mc_M_readDam : Cond.code y_M_readDam b_M_readDam 2 (Option.some .boolean) ∈ lw_use := g_use (List.mem_of_getElem? (i := 584) (by decide +kernel)) rfl
theorem d_M_readDam_0 : decode b_M_readDam 0 = .ok (.aload_n 0, 1) := by decide +kernel
theorem d_M_readDam_1 : decode b_M_readDam 1 = .ok (.getfield 65, 3) := by decide +kernel
theorem d_M_readDam_4 : decode b_M_readDam 4 = .ok (.aload_n 0, 1) := by decide +kernel
theorem d_M_readDam_5 : decode b_M_readDam 5 = .ok (.getfield 62, 3) := by decide +kernel
theorem d_M_readDam_8 : decode b_M_readDam 8 = .ok (.if_icmp .ge 18, 3) := by decide +kernel
theorem d_M_readDam_11 : decode b_M_readDam 11 = .ok (.aload_n 0, 1) := by decide +kernel
theorem d_M_readDam_12 : decode b_M_readDam 12 = .ok (.getfield 7, 3) := by decide +kernel
theorem d_M_readDam_15 : decode b_M_readDam 15 = .ok (.aload_n 0, 1) := by decide +kernel
theorem d_M_readDam_16 : decode b_M_readDam 16 = .ok (.getfield 65, 3) := by decide +kernel
theorem d_M_readDam_19 : decode b_M_readDam 19 = .ok (.iaload, 1) := by decide +kernel
theorem d_M_readDam_20 : decode b_M_readDam 20 = .ok (.bipush 48, 2) := by decide +kernel
theorem d_M_readDam_22 : decode b_M_readDam 22 = .ok (.isub, 1) := by decide +kernel
theorem d_M_readDam_23 : decode b_M_readDam 23 = .ok (.goto 5, 3) := by decide +kernel
theorem d_M_readDam_26 : decode b_M_readDam 26 = .ok (.bipush (-9), 2) := by decide +kernel
theorem d_M_readDam_28 : decode b_M_readDam 28 = .ok (.istore_n 1, 1) := by decide +kernel
theorem d_M_readDam_29 : decode b_M_readDam 29 = .ok (.iload_n 1, 1) := by decide +kernel
theorem d_M_readDam_30 : decode b_M_readDam 30 = .ok (.i2l, 1) := by decide +kernel
theorem d_M_readDam_31 : decode b_M_readDam 31 = .ok (.lconst 0, 1) := by decide +kernel
theorem d_M_readDam_32 : decode b_M_readDam 32 = .ok (.aload_n 0, 1) := by decide +kernel
theorem d_M_readDam_33 : decode b_M_readDam 33 = .ok (.getfield 68, 3) := by decide +kernel
theorem d_M_readDam_36 : decode b_M_readDam 36 = .ok (.iconst 2, 1) := by decide +kernel
theorem d_M_readDam_37 : decode b_M_readDam 37 = .ok (.isub, 1) := by decide +kernel
theorem d_M_readDam_38 : decode b_M_readDam 38 = .ok (.i2l, 1) := by decide +kernel
theorem d_M_readDam_39 : decode b_M_readDam 39 = .ok (.invokestatic 54, 3) := by decide +kernel
theorem d_M_readDam_42 : decode b_M_readDam 42 = .ok (.ifCond .eq 14, 3) := by decide +kernel
theorem d_M_readDam_45 : decode b_M_readDam 45 = .ok (.aload_n 0, 1) := by decide +kernel
theorem d_M_readDam_46 : decode b_M_readDam 46 = .ok (.getfield 75, 3) := by decide +kernel
theorem d_M_readDam_49 : decode b_M_readDam 49 = .ok (.iload_n 1, 1) := by decide +kernel
theorem d_M_readDam_50 : decode b_M_readDam 50 = .ok (.invokestatic 78, 3) := by decide +kernel
theorem d_M_readDam_53 : decode b_M_readDam 53 = .ok (.ifCond .eq 5, 3) := by decide +kernel
theorem d_M_readDam_56 : decode b_M_readDam 56 = .ok (.iconst 0, 1) := by decide +kernel
theorem d_M_readDam_57 : decode b_M_readDam 57 = .ok (.ireturn, 1) := by decide +kernel
theorem d_M_readDam_58 : decode b_M_readDam 58 = .ok (.aload_n 0, 1) := by decide +kernel
theorem d_M_readDam_59 : decode b_M_readDam 59 = .ok (.dup, 1) := by decide +kernel
theorem d_M_readDam_60 : decode b_M_readDam 60 = .ok (.getfield 65, 3) := by decide +kernel
theorem d_M_readDam_63 : decode b_M_readDam 63 = .ok (.iconst 1, 1) := by decide +kernel
theorem d_M_readDam_64 : decode b_M_readDam 64 = .ok (.iadd, 1) := by decide +kernel
theorem d_M_readDam_65 : decode b_M_readDam 65 = .ok (.putfield 65, 3) := by decide +kernel
theorem d_M_readDam_68 : decode b_M_readDam 68 = .ok (.aload_n 0, 1) := by decide +kernel
theorem d_M_readDam_69 : decode b_M_readDam 69 = .ok (.dup, 1) := by decide +kernel
theorem d_M_readDam_70 : decode b_M_readDam 70 = .ok (.getfield 75, 3) := by decide +kernel
theorem d_M_readDam_73 : decode b_M_readDam 73 = .ok (.iconst 1, 1) := by decide +kernel
theorem d_M_readDam_74 : decode b_M_readDam 74 = .ok (.iload_n 1, 1) := by decide +kernel
theorem d_M_readDam_75 : decode b_M_readDam 75 = .ok (.ishl, 1) := by decide +kernel
theorem d_M_readDam_76 : decode b_M_readDam 76 = .ok (.ior, 1) := by decide +kernel
theorem d_M_readDam_77 : decode b_M_readDam 77 = .ok (.putfield 75, 3) := by decide +kernel
theorem d_M_readDam_80 : decode b_M_readDam 80 = .ok (.iconst 1, 1) := by decide +kernel
theorem d_M_readDam_81 : decode b_M_readDam 81 = .ok (.ireturn, 1) := by decide +kernel
abbrev b_M_canDam : ByteArray := prog_5_method_14_code
def y_M_canDam : MethodName := ⟨R_M, "canDam", "()Z"⟩
theorem mc_M_canDam : Cond.code y_M_canDam b_M_canDam 1 (Option.some .boolean) ∈ lw_use := g_use (List.mem_of_getElem? (i := 580) (by decide +kernel)) rfl
theorem d_M_canDam_0 : decode b_M_canDam 0 = .ok (.aload_n 0, 1) := by decide +kernel
theorem d_M_canDam_1 : decode b_M_canDam 1 = .ok (.getfield 68, 3) := by decide +kernel
theorem d_M_canDam_4 : decode b_M_canDam 4 = .ok (.iconst 1, 1) := by decide +kernel
theorem d_M_canDam_5 : decode b_M_canDam 5 = .ok (.if_icmp .le 24, 3) := by decide +kernel
theorem d_M_canDam_8 : decode b_M_canDam 8 = .ok (.aload_n 0, 1) := by decide +kernel
theorem d_M_canDam_9 : decode b_M_canDam 9 = .ok (.getfield 75, 3) := by decide +kernel
theorem d_M_canDam_12 : decode b_M_canDam 12 = .ok (.iconst 1, 1) := by decide +kernel
theorem d_M_canDam_13 : decode b_M_canDam 13 = .ok (.aload_n 0, 1) := by decide +kernel
theorem d_M_canDam_14 : decode b_M_canDam 14 = .ok (.getfield 68, 3) := by decide +kernel
theorem d_M_canDam_17 : decode b_M_canDam 17 = .ok (.iconst 1, 1) := by decide +kernel
theorem d_M_canDam_18 : decode b_M_canDam 18 = .ok (.isub, 1) := by decide +kernel
theorem d_M_canDam_19 : decode b_M_canDam 19 = .ok (.ishl, 1) := by decide +kernel
theorem d_M_canDam_20 : decode b_M_canDam 20 = .ok (.iconst 1, 1) := by decide +kernel
theorem d_M_canDam_21 : decode b_M_canDam 21 = .ok (.isub, 1) := by decide +kernel
theorem d_M_canDam_22 : decode b_M_canDam 22 = .ok (.if_icmp .eq 7, 3) := by decide +kernel
theorem d_M_canDam_25 : decode b_M_canDam 25 = .ok (.iconst 1, 1) := by decide +kernel
theorem d_M_canDam_26 : decode b_M_canDam 26 = .ok (.goto 4, 3) := by decide +kernel
theorem d_M_canDam_29 : decode b_M_canDam 29 = .ok (.iconst 0, 1) := by decide +kernel
theorem d_M_canDam_30 : decode b_M_canDam 30 = .ok (.ireturn, 1) := by decide +kernel
abbrev b_M_readPart : ByteArray := prog_5_method_15_code
def y_M_readPart : MethodName := ⟨R_M, "readPart", "()Z"⟩
theorem mc_M_readPart : Cond.code y_M_readPart b_M_readPart 2 (Option.some .boolean) ∈ lw_use := g_use (List.mem_of_getElem? (i := 568) (by decide +kernel)) rfl
theorem d_M_readPart_0 : decode b_M_readPart 0 = .ok (.aload_n 0, 1) := by decide +kernel
theorem d_M_readPart_1 : decode b_M_readPart 1 = .ok (.getfield 7, 3) := by decide +kernel
theorem d_M_readPart_4 : decode b_M_readPart 4 = .ok (.aload_n 0, 1) := by decide +kernel
theorem d_M_readPart_5 : decode b_M_readPart 5 = .ok (.getfield 65, 3) := by decide +kernel
theorem d_M_readPart_8 : decode b_M_readPart 8 = .ok (.iaload, 1) := by decide +kernel
theorem d_M_readPart_9 : decode b_M_readPart 9 = .ok (.istore_n 1, 1) := by decide +kernel
theorem d_M_readPart_10 : decode b_M_readPart 10 = .ok (.aload_n 0, 1) := by decide +kernel
theorem d_M_readPart_11 : decode b_M_readPart 11 = .ok (.dup, 1) := by decide +kernel
theorem d_M_readPart_12 : decode b_M_readPart 12 = .ok (.getfield 65, 3) := by decide +kernel
theorem d_M_readPart_15 : decode b_M_readPart 15 = .ok (.iconst 1, 1) := by decide +kernel
theorem d_M_readPart_16 : decode b_M_readPart 16 = .ok (.iadd, 1) := by decide +kernel
theorem d_M_readPart_17 : decode b_M_readPart 17 = .ok (.putfield 65, 3) := by decide +kernel
theorem d_M_readPart_20 : decode b_M_readPart 20 = .ok (.iload_n 1, 1) := by decide +kernel
theorem d_M_readPart_21 : decode b_M_readPart 21 = .ok (.bipush 70, 2) := by decide +kernel
theorem d_M_readPart_23 : decode b_M_readPart 23 = .ok (.if_icmp .ne 17, 3) := by decide +kernel
theorem d_M_readPart_26 : decode b_M_readPart 26 = .ok (.aload_n 0, 1) := by decide +kernel
theorem d_M_readPart_27 : decode b_M_readPart 27 = .ok (.getfield 68, 3) := by decide +kernel
theorem d_M_readPart_30 : decode b_M_readPart 30 = .ok (.bipush 6, 2) := by decide +kernel
theorem d_M_readPart_32 : decode b_M_readPart 32 = .ok (.if_icmp .ge 8, 3) := by decide +kernel
theorem d_M_readPart_35 : decode b_M_readPart 35 = .ok (.aload_n 0, 1) := by decide +kernel
theorem d_M_readPart_36 : decode b_M_readPart 36 = .ok (.invokevirtual 82, 3) := by decide +kernel
theorem d_M_readPart_39 : decode b_M_readPart 39 = .ok (.ireturn, 1) := by decide +kernel
theorem d_M_readPart_40 : decode b_M_readPart 40 = .ok (.iload_n 1, 1) := by decide +kernel
theorem d_M_readPart_41 : decode b_M_readPart 41 = .ok (.bipush 73, 2) := by decide +kernel
theorem d_M_readPart_43 : decode b_M_readPart 43 = .ok (.if_icmp .ne 15, 3) := by decide +kernel
theorem d_M_readPart_46 : decode b_M_readPart 46 = .ok (.aload_n 0, 1) := by decide +kernel
theorem d_M_readPart_47 : decode b_M_readPart 47 = .ok (.invokevirtual 85, 3) := by decide +kernel
theorem d_M_readPart_50 : decode b_M_readPart 50 = .ok (.ifCond .eq 8, 3) := by decide +kernel
theorem d_M_readPart_53 : decode b_M_readPart 53 = .ok (.aload_n 0, 1) := by decide +kernel
theorem d_M_readPart_54 : decode b_M_readPart 54 = .ok (.invokevirtual 88, 3) := by decide +kernel
theorem d_M_readPart_57 : decode b_M_readPart 57 = .ok (.ireturn, 1) := by decide +kernel
theorem d_M_readPart_58 : decode b_M_readPart 58 = .ok (.aload_n 0, 1) := by decide +kernel
theorem d_M_readPart_59 : decode b_M_readPart 59 = .ok (.dup, 1) := by decide +kernel
theorem d_M_readPart_60 : decode b_M_readPart 60 = .ok (.getfield 65, 3) := by decide +kernel
theorem d_M_readPart_63 : decode b_M_readPart 63 = .ok (.iconst 1, 1) := by decide +kernel
theorem d_M_readPart_64 : decode b_M_readPart 64 = .ok (.isub, 1) := by decide +kernel
theorem d_M_readPart_65 : decode b_M_readPart 65 = .ok (.putfield 65, 3) := by decide +kernel
theorem d_M_readPart_68 : decode b_M_readPart 68 = .ok (.iconst 0, 1) := by decide +kernel
theorem d_M_readPart_69 : decode b_M_readPart 69 = .ok (.ireturn, 1) := by decide +kernel
abbrev b_M_readDyke : ByteArray := prog_5_method_16_code
def y_M_readDyke : MethodName := ⟨R_M, "readDyke", "()I"⟩
theorem mc_M_readDyke : Cond.code y_M_readDyke b_M_readDyke 1 (Option.some .int) ∈ lw_use := g_use (List.mem_of_getElem? (i := 564) (by decide +kernel)) rfl
theorem d_M_readDyke_0 : decode b_M_readDyke 0 = .ok (.aload_n 0, 1) := by decide +kernel
theorem d_M_readDyke_1 : decode b_M_readDyke 1 = .ok (.iconst 0, 1) := by decide +kernel
theorem d_M_readDyke_2 : decode b_M_readDyke 2 = .ok (.putfield 65, 3) := by decide +kernel
theorem d_M_readDyke_5 : decode b_M_readDyke 5 = .ok (.aload_n 0, 1) := by decide +kernel
theorem d_M_readDyke_6 : decode b_M_readDyke 6 = .ok (.iconst 0, 1) := by decide +kernel
theorem d_M_readDyke_7 : decode b_M_readDyke 7 = .ok (.putfield 68, 3) := by decide +kernel
theorem d_M_readDyke_10 : decode b_M_readDyke 10 = .ok (.aload_n 0, 1) := by decide +kernel
theorem d_M_readDyke_11 : decode b_M_readDyke 11 = .ok (.iconst 0, 1) := by decide +kernel
theorem d_M_readDyke_12 : decode b_M_readDyke 12 = .ok (.putfield 75, 3) := by decide +kernel
theorem d_M_readDyke_15 : decode b_M_readDyke 15 = .ok (.aload_n 0, 1) := by decide +kernel
theorem d_M_readDyke_16 : decode b_M_readDyke 16 = .ok (.getfield 62, 3) := by decide +kernel
theorem d_M_readDyke_19 : decode b_M_readDyke 19 = .ok (.ifCond .eq 14, 3) := by decide +kernel
theorem d_M_readDyke_22 : decode b_M_readDyke 22 = .ok (.aload_n 0, 1) := by decide +kernel
theorem d_M_readDyke_23 : decode b_M_readDyke 23 = .ok (.getfield 7, 3) := by decide +kernel
theorem d_M_readDyke_26 : decode b_M_readDyke 26 = .ok (.iconst 0, 1) := by decide +kernel
theorem d_M_readDyke_27 : decode b_M_readDyke 27 = .ok (.iaload, 1) := by decide +kernel
theorem d_M_readDyke_28 : decode b_M_readDyke 28 = .ok (.bipush 68, 2) := by decide +kernel
theorem d_M_readDyke_30 : decode b_M_readDyke 30 = .ok (.if_icmp .eq 5, 3) := by decide +kernel
theorem d_M_readDyke_33 : decode b_M_readDyke 33 = .ok (.iconst 0, 1) := by decide +kernel
theorem d_M_readDyke_34 : decode b_M_readDyke 34 = .ok (.ireturn, 1) := by decide +kernel
theorem d_M_readDyke_35 : decode b_M_readDyke 35 = .ok (.aload_n 0, 1) := by decide +kernel
theorem d_M_readDyke_36 : decode b_M_readDyke 36 = .ok (.iconst 1, 1) := by decide +kernel
theorem d_M_readDyke_37 : decode b_M_readDyke 37 = .ok (.putfield 65, 3) := by decide +kernel
theorem d_M_readDyke_40 : decode b_M_readDyke 40 = .ok (.aload_n 0, 1) := by decide +kernel
theorem d_M_readDyke_41 : decode b_M_readDyke 41 = .ok (.getfield 65, 3) := by decide +kernel
theorem d_M_readDyke_44 : decode b_M_readDyke 44 = .ok (.aload_n 0, 1) := by decide +kernel
theorem d_M_readDyke_45 : decode b_M_readDyke 45 = .ok (.getfield 62, 3) := by decide +kernel
theorem d_M_readDyke_48 : decode b_M_readDyke 48 = .ok (.if_icmp .ge 15, 3) := by decide +kernel
theorem d_M_readDyke_51 : decode b_M_readDyke 51 = .ok (.aload_n 0, 1) := by decide +kernel
theorem d_M_readDyke_52 : decode b_M_readDyke 52 = .ok (.invokevirtual 91, 3) := by decide +kernel
theorem d_M_readDyke_55 : decode b_M_readDyke 55 = .ok (.ifCond .ne (-15), 3) := by decide +kernel
theorem d_M_readDyke_58 : decode b_M_readDyke 58 = .ok (.aload_n 0, 1) := by decide +kernel
theorem d_M_readDyke_59 : decode b_M_readDyke 59 = .ok (.getfield 65, 3) := by decide +kernel
theorem d_M_readDyke_62 : decode b_M_readDyke 62 = .ok (.ireturn, 1) := by decide +kernel
theorem d_M_readDyke_63 : decode b_M_readDyke 63 = .ok (.bipush (-9), 2) := by decide +kernel
theorem d_M_readDyke_65 : decode b_M_readDyke 65 = .ok (.ireturn, 1) := by decide +kernel
abbrev b_M_fault : ByteArray := prog_5_method_17_code
def y_M_fault : MethodName := ⟨R_M, "fault", "()I"⟩
theorem mc_M_fault : Cond.code y_M_fault b_M_fault 1 (Option.some .int) ∈ lw_use := g_use (List.mem_of_getElem? (i := 560) (by decide +kernel)) rfl
theorem d_M_fault_0 : decode b_M_fault 0 = .ok (.aload_n 0, 1) := by decide +kernel
theorem d_M_fault_1 : decode b_M_fault 1 = .ok (.iconst 0, 1) := by decide +kernel
theorem d_M_fault_2 : decode b_M_fault 2 = .ok (.putfield 47, 3) := by decide +kernel
theorem d_M_fault_5 : decode b_M_fault 5 = .ok (.aload_n 0, 1) := by decide +kernel
theorem d_M_fault_6 : decode b_M_fault 6 = .ok (.invokevirtual 94, 3) := by decide +kernel
theorem d_M_fault_9 : decode b_M_fault 9 = .ok (.ireturn, 1) := by decide +kernel
abbrev b_M_dyke : ByteArray := prog_5_method_18_code
def y_M_dyke : MethodName := ⟨R_M, "dyke", "()I"⟩
theorem mc_M_dyke : Cond.code y_M_dyke b_M_dyke 2 (Option.some .int) ∈ lw_use := g_use (List.mem_of_getElem? (i := 591) (by decide +kernel)) rfl
theorem d_M_dyke_0 : decode b_M_dyke 0 = .ok (.aload_n 0, 1) := by decide +kernel
theorem d_M_dyke_1 : decode b_M_dyke 1 = .ok (.iconst 0, 1) := by decide +kernel
theorem d_M_dyke_2 : decode b_M_dyke 2 = .ok (.putfield 47, 3) := by decide +kernel
theorem d_M_dyke_5 : decode b_M_dyke 5 = .ok (.aload_n 0, 1) := by decide +kernel
theorem d_M_dyke_6 : decode b_M_dyke 6 = .ok (.invokevirtual 94, 3) := by decide +kernel
theorem d_M_dyke_9 : decode b_M_dyke 9 = .ok (.bipush (-9), 2) := by decide +kernel
theorem d_M_dyke_11 : decode b_M_dyke 11 = .ok (.if_icmp .eq 6, 3) := by decide +kernel
theorem d_M_dyke_14 : decode b_M_dyke 14 = .ok (.bipush (-3), 2) := by decide +kernel
theorem d_M_dyke_16 : decode b_M_dyke 16 = .ok (.ireturn, 1) := by decide +kernel
theorem d_M_dyke_17 : decode b_M_dyke 17 = .ok (.aload_n 0, 1) := by decide +kernel
theorem d_M_dyke_18 : decode b_M_dyke 18 = .ok (.aload_n 0, 1) := by decide +kernel
theorem d_M_dyke_19 : decode b_M_dyke 19 = .ok (.getfield 68, 3) := by decide +kernel
theorem d_M_dyke_22 : decode b_M_dyke 22 = .ok (.putfield 51, 3) := by decide +kernel
theorem d_M_dyke_25 : decode b_M_dyke 25 = .ok (.iconst 0, 1) := by decide +kernel
theorem d_M_dyke_26 : decode b_M_dyke 26 = .ok (.istore_n 1, 1) := by decide +kernel
theorem d_M_dyke_27 : decode b_M_dyke 27 = .ok (.iload_n 1, 1) := by decide +kernel
theorem d_M_dyke_28 : decode b_M_dyke 28 = .ok (.bipush 57, 2) := by decide +kernel
theorem d_M_dyke_30 : decode b_M_dyke 30 = .ok (.if_icmp .ge 16, 3) := by decide +kernel
theorem d_M_dyke_33 : decode b_M_dyke 33 = .ok (.aload_n 0, 1) := by decide +kernel
theorem d_M_dyke_34 : decode b_M_dyke 34 = .ok (.getfield 25, 3) := by decide +kernel
theorem d_M_dyke_37 : decode b_M_dyke 37 = .ok (.iload_n 1, 1) := by decide +kernel
theorem d_M_dyke_38 : decode b_M_dyke 38 = .ok (.iconst 0, 1) := by decide +kernel
theorem d_M_dyke_39 : decode b_M_dyke 39 = .ok (.iastore, 1) := by decide +kernel
theorem d_M_dyke_40 : decode b_M_dyke 40 = .ok (.iinc 1 1, 3) := by decide +kernel
theorem d_M_dyke_43 : decode b_M_dyke 43 = .ok (.goto (-16), 3) := by decide +kernel
theorem d_M_dyke_46 : decode b_M_dyke 46 = .ok (.iconst 0, 1) := by decide +kernel
theorem d_M_dyke_47 : decode b_M_dyke 47 = .ok (.istore_n 1, 1) := by decide +kernel
theorem d_M_dyke_48 : decode b_M_dyke 48 = .ok (.iload_n 1, 1) := by decide +kernel
theorem d_M_dyke_49 : decode b_M_dyke 49 = .ok (.aload_n 0, 1) := by decide +kernel
theorem d_M_dyke_50 : decode b_M_dyke 50 = .ok (.getfield 51, 3) := by decide +kernel
theorem d_M_dyke_53 : decode b_M_dyke 53 = .ok (.if_icmp .ge 102, 3) := by decide +kernel
theorem d_M_dyke_56 : decode b_M_dyke 56 = .ok (.aload_n 0, 1) := by decide +kernel
theorem d_M_dyke_57 : decode b_M_dyke 57 = .ok (.getfield 25, 3) := by decide +kernel
theorem d_M_dyke_60 : decode b_M_dyke 60 = .ok (.iconst 0, 1) := by decide +kernel
theorem d_M_dyke_61 : decode b_M_dyke 61 = .ok (.iload_n 1, 1) := by decide +kernel
theorem d_M_dyke_62 : decode b_M_dyke 62 = .ok (.iadd, 1) := by decide +kernel
theorem d_M_dyke_63 : decode b_M_dyke 63 = .ok (.aload_n 0, 1) := by decide +kernel
theorem d_M_dyke_64 : decode b_M_dyke 64 = .ok (.getfield 22, 3) := by decide +kernel
theorem d_M_dyke_67 : decode b_M_dyke 67 = .ok (.iconst 5, 1) := by decide +kernel
theorem d_M_dyke_68 : decode b_M_dyke 68 = .ok (.iload_n 1, 1) := by decide +kernel
theorem d_M_dyke_69 : decode b_M_dyke 69 = .ok (.imul, 1) := by decide +kernel
theorem d_M_dyke_70 : decode b_M_dyke 70 = .ok (.iaload, 1) := by decide +kernel
theorem d_M_dyke_71 : decode b_M_dyke 71 = .ok (.iastore, 1) := by decide +kernel
theorem d_M_dyke_72 : decode b_M_dyke 72 = .ok (.aload_n 0, 1) := by decide +kernel
theorem d_M_dyke_73 : decode b_M_dyke 73 = .ok (.getfield 13, 3) := by decide +kernel
theorem d_M_dyke_76 : decode b_M_dyke 76 = .ok (.iload_n 1, 1) := by decide +kernel
theorem d_M_dyke_77 : decode b_M_dyke 77 = .ok (.aload_n 0, 1) := by decide +kernel
theorem d_M_dyke_78 : decode b_M_dyke 78 = .ok (.getfield 22, 3) := by decide +kernel
theorem d_M_dyke_81 : decode b_M_dyke 81 = .ok (.iconst 5, 1) := by decide +kernel
theorem d_M_dyke_82 : decode b_M_dyke 82 = .ok (.iload_n 1, 1) := by decide +kernel
theorem d_M_dyke_83 : decode b_M_dyke 83 = .ok (.imul, 1) := by decide +kernel
theorem d_M_dyke_84 : decode b_M_dyke 84 = .ok (.iconst 1, 1) := by decide +kernel
theorem d_M_dyke_85 : decode b_M_dyke 85 = .ok (.iadd, 1) := by decide +kernel
theorem d_M_dyke_86 : decode b_M_dyke 86 = .ok (.iaload, 1) := by decide +kernel
theorem d_M_dyke_87 : decode b_M_dyke 87 = .ok (.iastore, 1) := by decide +kernel
theorem d_M_dyke_88 : decode b_M_dyke 88 = .ok (.aload_n 0, 1) := by decide +kernel
theorem d_M_dyke_89 : decode b_M_dyke 89 = .ok (.getfield 25, 3) := by decide +kernel
theorem d_M_dyke_92 : decode b_M_dyke 92 = .ok (.bipush 6, 2) := by decide +kernel
theorem d_M_dyke_94 : decode b_M_dyke 94 = .ok (.iload_n 1, 1) := by decide +kernel
theorem d_M_dyke_95 : decode b_M_dyke 95 = .ok (.iadd, 1) := by decide +kernel
theorem d_M_dyke_96 : decode b_M_dyke 96 = .ok (.aload_n 0, 1) := by decide +kernel
theorem d_M_dyke_97 : decode b_M_dyke 97 = .ok (.getfield 22, 3) := by decide +kernel
theorem d_M_dyke_100 : decode b_M_dyke 100 = .ok (.iconst 5, 1) := by decide +kernel
theorem d_M_dyke_101 : decode b_M_dyke 101 = .ok (.iload_n 1, 1) := by decide +kernel
theorem d_M_dyke_102 : decode b_M_dyke 102 = .ok (.imul, 1) := by decide +kernel
theorem d_M_dyke_103 : decode b_M_dyke 103 = .ok (.iconst 2, 1) := by decide +kernel
theorem d_M_dyke_104 : decode b_M_dyke 104 = .ok (.iadd, 1) := by decide +kernel
theorem d_M_dyke_105 : decode b_M_dyke 105 = .ok (.iaload, 1) := by decide +kernel
theorem d_M_dyke_106 : decode b_M_dyke 106 = .ok (.iastore, 1) := by decide +kernel
theorem d_M_dyke_107 : decode b_M_dyke 107 = .ok (.aload_n 0, 1) := by decide +kernel
theorem d_M_dyke_108 : decode b_M_dyke 108 = .ok (.getfield 16, 3) := by decide +kernel
theorem d_M_dyke_111 : decode b_M_dyke 111 = .ok (.iload_n 1, 1) := by decide +kernel
theorem d_M_dyke_112 : decode b_M_dyke 112 = .ok (.aload_n 0, 1) := by decide +kernel
theorem d_M_dyke_113 : decode b_M_dyke 113 = .ok (.getfield 22, 3) := by decide +kernel
theorem d_M_dyke_116 : decode b_M_dyke 116 = .ok (.iconst 5, 1) := by decide +kernel
theorem d_M_dyke_117 : decode b_M_dyke 117 = .ok (.iload_n 1, 1) := by decide +kernel
theorem d_M_dyke_118 : decode b_M_dyke 118 = .ok (.imul, 1) := by decide +kernel
theorem d_M_dyke_119 : decode b_M_dyke 119 = .ok (.iconst 3, 1) := by decide +kernel
theorem d_M_dyke_120 : decode b_M_dyke 120 = .ok (.iadd, 1) := by decide +kernel
theorem d_M_dyke_121 : decode b_M_dyke 121 = .ok (.iaload, 1) := by decide +kernel
theorem d_M_dyke_122 : decode b_M_dyke 122 = .ok (.iastore, 1) := by decide +kernel
theorem d_M_dyke_123 : decode b_M_dyke 123 = .ok (.aload_n 0, 1) := by decide +kernel
theorem d_M_dyke_124 : decode b_M_dyke 124 = .ok (.getfield 19, 3) := by decide +kernel
theorem d_M_dyke_127 : decode b_M_dyke 127 = .ok (.iload_n 1, 1) := by decide +kernel
theorem d_M_dyke_128 : decode b_M_dyke 128 = .ok (.aload_n 0, 1) := by decide +kernel
theorem d_M_dyke_129 : decode b_M_dyke 129 = .ok (.getfield 22, 3) := by decide +kernel
theorem d_M_dyke_132 : decode b_M_dyke 132 = .ok (.iconst 5, 1) := by decide +kernel
theorem d_M_dyke_133 : decode b_M_dyke 133 = .ok (.iload_n 1, 1) := by decide +kernel
theorem d_M_dyke_134 : decode b_M_dyke 134 = .ok (.imul, 1) := by decide +kernel
theorem d_M_dyke_135 : decode b_M_dyke 135 = .ok (.iconst 4, 1) := by decide +kernel
theorem d_M_dyke_136 : decode b_M_dyke 136 = .ok (.iadd, 1) := by decide +kernel
theorem d_M_dyke_137 : decode b_M_dyke 137 = .ok (.iaload, 1) := by decide +kernel
theorem d_M_dyke_138 : decode b_M_dyke 138 = .ok (.iastore, 1) := by decide +kernel
theorem d_M_dyke_139 : decode b_M_dyke 139 = .ok (.aload_n 0, 1) := by decide +kernel
theorem d_M_dyke_140 : decode b_M_dyke 140 = .ok (.getfield 25, 3) := by decide +kernel
theorem d_M_dyke_143 : decode b_M_dyke 143 = .ok (.bipush 12, 2) := by decide +kernel
theorem d_M_dyke_145 : decode b_M_dyke 145 = .ok (.iload_n 1, 1) := by decide +kernel
theorem d_M_dyke_146 : decode b_M_dyke 146 = .ok (.iadd, 1) := by decide +kernel
theorem d_M_dyke_147 : decode b_M_dyke 147 = .ok (.iload_n 1, 1) := by decide +kernel
theorem d_M_dyke_148 : decode b_M_dyke 148 = .ok (.iastore, 1) := by decide +kernel
theorem d_M_dyke_149 : decode b_M_dyke 149 = .ok (.iinc 1 1, 3) := by decide +kernel
theorem d_M_dyke_152 : decode b_M_dyke 152 = .ok (.goto (-104), 3) := by decide +kernel
theorem d_M_dyke_155 : decode b_M_dyke 155 = .ok (.aload_n 0, 1) := by decide +kernel
theorem d_M_dyke_156 : decode b_M_dyke 156 = .ok (.getfield 25, 3) := by decide +kernel
theorem d_M_dyke_159 : decode b_M_dyke 159 = .ok (.bipush 19, 2) := by decide +kernel
theorem d_M_dyke_161 : decode b_M_dyke 161 = .ok (.aload_n 0, 1) := by decide +kernel
theorem d_M_dyke_162 : decode b_M_dyke 162 = .ok (.getfield 75, 3) := by decide +kernel
theorem d_M_dyke_165 : decode b_M_dyke 165 = .ok (.iastore, 1) := by decide +kernel
theorem d_M_dyke_166 : decode b_M_dyke 166 = .ok (.aload_n 0, 1) := by decide +kernel
theorem d_M_dyke_167 : decode b_M_dyke 167 = .ok (.iconst 0, 1) := by decide +kernel
theorem d_M_dyke_168 : decode b_M_dyke 168 = .ok (.putfield 98, 3) := by decide +kernel
theorem d_M_dyke_171 : decode b_M_dyke 171 = .ok (.aload_n 0, 1) := by decide +kernel
theorem d_M_dyke_172 : decode b_M_dyke 172 = .ok (.getfield 37, 3) := by decide +kernel
theorem d_M_dyke_175 : decode b_M_dyke 175 = .ok (.iconst 0, 1) := by decide +kernel
theorem d_M_dyke_176 : decode b_M_dyke 176 = .ok (.iconst 0, 1) := by decide +kernel
theorem d_M_dyke_177 : decode b_M_dyke 177 = .ok (.bastore, 1) := by decide +kernel
theorem d_M_dyke_178 : decode b_M_dyke 178 = .ok (.aload_n 0, 1) := by decide +kernel
theorem d_M_dyke_179 : decode b_M_dyke 179 = .ok (.getfield 37, 3) := by decide +kernel
theorem d_M_dyke_182 : decode b_M_dyke 182 = .ok (.iconst 1, 1) := by decide +kernel
theorem d_M_dyke_183 : decode b_M_dyke 183 = .ok (.iconst 0, 1) := by decide +kernel
theorem d_M_dyke_184 : decode b_M_dyke 184 = .ok (.bastore, 1) := by decide +kernel
theorem d_M_dyke_185 : decode b_M_dyke 185 = .ok (.aload_n 0, 1) := by decide +kernel
theorem d_M_dyke_186 : decode b_M_dyke 186 = .ok (.getfield 51, 3) := by decide +kernel
theorem d_M_dyke_189 : decode b_M_dyke 189 = .ok (.ireturn, 1) := by decide +kernel
abbrev b_M_strength : ByteArray := prog_5_method_19_code
def y_M_strength : MethodName := ⟨R_M, "strength", "([II)I"⟩
theorem mc_M_strength : Cond.code y_M_strength b_M_strength 4 (Option.some .int) ∈ lw_use := g_use (List.mem_of_getElem? (i := 615) (by decide +kernel)) rfl
theorem d_M_strength_0 : decode b_M_strength 0 = .ok (.aload_n 0, 1) := by decide +kernel
theorem d_M_strength_1 : decode b_M_strength 1 = .ok (.getfield 19, 3) := by decide +kernel
theorem d_M_strength_4 : decode b_M_strength 4 = .ok (.iload_n 2, 1) := by decide +kernel
theorem d_M_strength_5 : decode b_M_strength 5 = .ok (.iaload, 1) := by decide +kernel
theorem d_M_strength_6 : decode b_M_strength 6 = .ok (.iconst 1, 1) := by decide +kernel
theorem d_M_strength_7 : decode b_M_strength 7 = .ok (.if_icmp .ne 7, 3) := by decide +kernel
theorem d_M_strength_10 : decode b_M_strength 10 = .ok (.iconst 0, 1) := by decide +kernel
theorem d_M_strength_11 : decode b_M_strength 11 = .ok (.goto 51, 3) := by decide +kernel
theorem d_M_strength_14 : decode b_M_strength 14 = .ok (.aload_n 0, 1) := by decide +kernel
theorem d_M_strength_15 : decode b_M_strength 15 = .ok (.getfield 19, 3) := by decide +kernel
theorem d_M_strength_18 : decode b_M_strength 18 = .ok (.iload_n 2, 1) := by decide +kernel
theorem d_M_strength_19 : decode b_M_strength 19 = .ok (.iaload, 1) := by decide +kernel
theorem d_M_strength_20 : decode b_M_strength 20 = .ok (.iconst 2, 1) := by decide +kernel
theorem d_M_strength_21 : decode b_M_strength 21 = .ok (.if_icmp .ne 14, 3) := by decide +kernel
theorem d_M_strength_24 : decode b_M_strength 24 = .ok (.iconst 2, 1) := by decide +kernel
theorem d_M_strength_25 : decode b_M_strength 25 = .ok (.aload_n 0, 1) := by decide +kernel
theorem d_M_strength_26 : decode b_M_strength 26 = .ok (.getfield 13, 3) := by decide +kernel
theorem d_M_strength_29 : decode b_M_strength 29 = .ok (.iload_n 2, 1) := by decide +kernel
theorem d_M_strength_30 : decode b_M_strength 30 = .ok (.iaload, 1) := by decide +kernel
theorem d_M_strength_31 : decode b_M_strength 31 = .ok (.imul, 1) := by decide +kernel
theorem d_M_strength_32 : decode b_M_strength 32 = .ok (.goto 30, 3) := by decide +kernel
theorem d_M_strength_35 : decode b_M_strength 35 = .ok (.aload_n 0, 1) := by decide +kernel
theorem d_M_strength_36 : decode b_M_strength 36 = .ok (.getfield 19, 3) := by decide +kernel
theorem d_M_strength_39 : decode b_M_strength 39 = .ok (.iload_n 2, 1) := by decide +kernel
theorem d_M_strength_40 : decode b_M_strength 40 = .ok (.iaload, 1) := by decide +kernel
theorem d_M_strength_41 : decode b_M_strength 41 = .ok (.iconst 3, 1) := by decide +kernel
theorem d_M_strength_42 : decode b_M_strength 42 = .ok (.if_icmp .ne 14, 3) := by decide +kernel
theorem d_M_strength_45 : decode b_M_strength 45 = .ok (.aload_n 0, 1) := by decide +kernel
theorem d_M_strength_46 : decode b_M_strength 46 = .ok (.getfield 13, 3) := by decide +kernel
theorem d_M_strength_49 : decode b_M_strength 49 = .ok (.iload_n 2, 1) := by decide +kernel
theorem d_M_strength_50 : decode b_M_strength 50 = .ok (.iaload, 1) := by decide +kernel
theorem d_M_strength_51 : decode b_M_strength 51 = .ok (.iconst 2, 1) := by decide +kernel
theorem d_M_strength_52 : decode b_M_strength 52 = .ok (.iadd, 1) := by decide +kernel
theorem d_M_strength_53 : decode b_M_strength 53 = .ok (.goto 9, 3) := by decide +kernel
theorem d_M_strength_56 : decode b_M_strength 56 = .ok (.aload_n 0, 1) := by decide +kernel
theorem d_M_strength_57 : decode b_M_strength 57 = .ok (.getfield 13, 3) := by decide +kernel
theorem d_M_strength_60 : decode b_M_strength 60 = .ok (.iload_n 2, 1) := by decide +kernel
theorem d_M_strength_61 : decode b_M_strength 61 = .ok (.iaload, 1) := by decide +kernel
theorem d_M_strength_62 : decode b_M_strength 62 = .ok (.istore_n 3, 1) := by decide +kernel
theorem d_M_strength_63 : decode b_M_strength 63 = .ok (.aload_n 1, 1) := by decide +kernel
theorem d_M_strength_64 : decode b_M_strength 64 = .ok (.iconst 0, 1) := by decide +kernel
theorem d_M_strength_65 : decode b_M_strength 65 = .ok (.iload_n 2, 1) := by decide +kernel
theorem d_M_strength_66 : decode b_M_strength 66 = .ok (.iadd, 1) := by decide +kernel
theorem d_M_strength_67 : decode b_M_strength 67 = .ok (.iaload, 1) := by decide +kernel
theorem d_M_strength_68 : decode b_M_strength 68 = .ok (.iload_n 3, 1) := by decide +kernel
theorem d_M_strength_69 : decode b_M_strength 69 = .ok (.iadd, 1) := by decide +kernel
theorem d_M_strength_70 : decode b_M_strength 70 = .ok (.ireturn, 1) := by decide +kernel
abbrev b_M_breaksBy : ByteArray := prog_5_method_20_code
def y_M_breaksBy : MethodName := ⟨R_M, "breaksBy", "([II)I"⟩
theorem mc_M_breaksBy : Cond.code y_M_breaksBy b_M_breaksBy 5 (Option.some .int) ∈ lw_use := g_use (List.mem_of_getElem? (i := 639) (by decide +kernel)) rfl
theorem d_M_breaksBy_0 : decode b_M_breaksBy 0 = .ok (.iconst 0, 1) := by decide +kernel
theorem d_M_breaksBy_1 : decode b_M_breaksBy 1 = .ok (.istore_n 3, 1) := by decide +kernel
theorem d_M_breaksBy_2 : decode b_M_breaksBy 2 = .ok (.iconst 0, 1) := by decide +kernel
theorem d_M_breaksBy_3 : decode b_M_breaksBy 3 = .ok (.istore 4, 2) := by decide +kernel
theorem d_M_breaksBy_5 : decode b_M_breaksBy 5 = .ok (.iload 4, 2) := by decide +kernel
theorem d_M_breaksBy_7 : decode b_M_breaksBy 7 = .ok (.aload_n 0, 1) := by decide +kernel
theorem d_M_breaksBy_8 : decode b_M_breaksBy 8 = .ok (.getfield 51, 3) := by decide +kernel
theorem d_M_breaksBy_11 : decode b_M_breaksBy 11 = .ok (.if_icmp .ge 31, 3) := by decide +kernel
theorem d_M_breaksBy_14 : decode b_M_breaksBy 14 = .ok (.iload_n 3, 1) := by decide +kernel
theorem d_M_breaksBy_15 : decode b_M_breaksBy 15 = .ok (.iload_n 2, 1) := by decide +kernel
theorem d_M_breaksBy_16 : decode b_M_breaksBy 16 = .ok (.aload_n 0, 1) := by decide +kernel
theorem d_M_breaksBy_17 : decode b_M_breaksBy 17 = .ok (.aload_n 1, 1) := by decide +kernel
theorem d_M_breaksBy_18 : decode b_M_breaksBy 18 = .ok (.iload 4, 2) := by decide +kernel
theorem d_M_breaksBy_20 : decode b_M_breaksBy 20 = .ok (.invokevirtual 101, 3) := by decide +kernel
theorem d_M_breaksBy_23 : decode b_M_breaksBy 23 = .ok (.if_icmp .le 10, 3) := by decide +kernel
theorem d_M_breaksBy_26 : decode b_M_breaksBy 26 = .ok (.iconst 1, 1) := by decide +kernel
theorem d_M_breaksBy_27 : decode b_M_breaksBy 27 = .ok (.iload 4, 2) := by decide +kernel
theorem d_M_breaksBy_29 : decode b_M_breaksBy 29 = .ok (.ishl, 1) := by decide +kernel
theorem d_M_breaksBy_30 : decode b_M_breaksBy 30 = .ok (.goto 4, 3) := by decide +kernel
theorem d_M_breaksBy_33 : decode b_M_breaksBy 33 = .ok (.iconst 0, 1) := by decide +kernel
theorem d_M_breaksBy_34 : decode b_M_breaksBy 34 = .ok (.ior, 1) := by decide +kernel
theorem d_M_breaksBy_35 : decode b_M_breaksBy 35 = .ok (.istore_n 3, 1) := by decide +kernel
theorem d_M_breaksBy_36 : decode b_M_breaksBy 36 = .ok (.iinc 4 1, 3) := by decide +kernel
theorem d_M_breaksBy_39 : decode b_M_breaksBy 39 = .ok (.goto (-34), 3) := by decide +kernel
theorem d_M_breaksBy_42 : decode b_M_breaksBy 42 = .ok (.iload_n 3, 1) := by decide +kernel
theorem d_M_breaksBy_43 : decode b_M_breaksBy 43 = .ok (.ireturn, 1) := by decide +kernel
abbrev b_M_drownsBy : ByteArray := prog_5_method_21_code
def y_M_drownsBy : MethodName := ⟨R_M, "drownsBy", "([II)I"⟩
theorem mc_M_drownsBy : Cond.code y_M_drownsBy b_M_drownsBy 5 (Option.some .int) ∈ lw_use := g_use (List.mem_of_getElem? (i := 643) (by decide +kernel)) rfl
theorem d_M_drownsBy_0 : decode b_M_drownsBy 0 = .ok (.iload_n 2, 1) := by decide +kernel
theorem d_M_drownsBy_1 : decode b_M_drownsBy 1 = .ok (.istore_n 3, 1) := by decide +kernel
theorem d_M_drownsBy_2 : decode b_M_drownsBy 2 = .ok (.iconst 1, 1) := by decide +kernel
theorem d_M_drownsBy_3 : decode b_M_drownsBy 3 = .ok (.istore 4, 2) := by decide +kernel
theorem d_M_drownsBy_5 : decode b_M_drownsBy 5 = .ok (.iload 4, 2) := by decide +kernel
theorem d_M_drownsBy_7 : decode b_M_drownsBy 7 = .ok (.aload_n 0, 1) := by decide +kernel
theorem d_M_drownsBy_8 : decode b_M_drownsBy 8 = .ok (.getfield 51, 3) := by decide +kernel
theorem d_M_drownsBy_11 : decode b_M_drownsBy 11 = .ok (.if_icmp .ge 45, 3) := by decide +kernel
theorem d_M_drownsBy_14 : decode b_M_drownsBy 14 = .ok (.iload_n 3, 1) := by decide +kernel
theorem d_M_drownsBy_15 : decode b_M_drownsBy 15 = .ok (.iload_n 3, 1) := by decide +kernel
theorem d_M_drownsBy_16 : decode b_M_drownsBy 16 = .ok (.iload 4, 2) := by decide +kernel
theorem d_M_drownsBy_18 : decode b_M_drownsBy 18 = .ok (.iconst 1, 1) := by decide +kernel
theorem d_M_drownsBy_19 : decode b_M_drownsBy 19 = .ok (.isub, 1) := by decide +kernel
theorem d_M_drownsBy_20 : decode b_M_drownsBy 20 = .ok (.invokestatic 78, 3) := by decide +kernel
theorem d_M_drownsBy_23 : decode b_M_drownsBy 23 = .ok (.ifCond .eq 24, 3) := by decide +kernel
theorem d_M_drownsBy_26 : decode b_M_drownsBy 26 = .ok (.aload_n 1, 1) := by decide +kernel
theorem d_M_drownsBy_27 : decode b_M_drownsBy 27 = .ok (.bipush 19, 2) := by decide +kernel
theorem d_M_drownsBy_29 : decode b_M_drownsBy 29 = .ok (.iaload, 1) := by decide +kernel
theorem d_M_drownsBy_30 : decode b_M_drownsBy 30 = .ok (.iload 4, 2) := by decide +kernel
theorem d_M_drownsBy_32 : decode b_M_drownsBy 32 = .ok (.iconst 1, 1) := by decide +kernel
theorem d_M_drownsBy_33 : decode b_M_drownsBy 33 = .ok (.isub, 1) := by decide +kernel
theorem d_M_drownsBy_34 : decode b_M_drownsBy 34 = .ok (.invokestatic 78, 3) := by decide +kernel
theorem d_M_drownsBy_37 : decode b_M_drownsBy 37 = .ok (.ifCond .ne 10, 3) := by decide +kernel
theorem d_M_drownsBy_40 : decode b_M_drownsBy 40 = .ok (.iconst 1, 1) := by decide +kernel
theorem d_M_drownsBy_41 : decode b_M_drownsBy 41 = .ok (.iload 4, 2) := by decide +kernel
theorem d_M_drownsBy_43 : decode b_M_drownsBy 43 = .ok (.ishl, 1) := by decide +kernel
theorem d_M_drownsBy_44 : decode b_M_drownsBy 44 = .ok (.goto 4, 3) := by decide +kernel
theorem d_M_drownsBy_47 : decode b_M_drownsBy 47 = .ok (.iconst 0, 1) := by decide +kernel
theorem d_M_drownsBy_48 : decode b_M_drownsBy 48 = .ok (.ior, 1) := by decide +kernel
theorem d_M_drownsBy_49 : decode b_M_drownsBy 49 = .ok (.istore_n 3, 1) := by decide +kernel
theorem d_M_drownsBy_50 : decode b_M_drownsBy 50 = .ok (.iinc 4 1, 3) := by decide +kernel
theorem d_M_drownsBy_53 : decode b_M_drownsBy 53 = .ok (.goto (-48), 3) := by decide +kernel
theorem d_M_drownsBy_56 : decode b_M_drownsBy 56 = .ok (.aload_n 0, 1) := by decide +kernel
theorem d_M_drownsBy_57 : decode b_M_drownsBy 57 = .ok (.getfield 51, 3) := by decide +kernel
theorem d_M_drownsBy_60 : decode b_M_drownsBy 60 = .ok (.iconst 2, 1) := by decide +kernel
theorem d_M_drownsBy_61 : decode b_M_drownsBy 61 = .ok (.isub, 1) := by decide +kernel
theorem d_M_drownsBy_62 : decode b_M_drownsBy 62 = .ok (.istore 4, 2) := by decide +kernel
theorem d_M_drownsBy_64 : decode b_M_drownsBy 64 = .ok (.iload 4, 2) := by decide +kernel
theorem d_M_drownsBy_66 : decode b_M_drownsBy 66 = .ok (.ifCond .lt 43, 3) := by decide +kernel
theorem d_M_drownsBy_69 : decode b_M_drownsBy 69 = .ok (.iload_n 3, 1) := by decide +kernel
theorem d_M_drownsBy_70 : decode b_M_drownsBy 70 = .ok (.iload_n 3, 1) := by decide +kernel
theorem d_M_drownsBy_71 : decode b_M_drownsBy 71 = .ok (.iload 4, 2) := by decide +kernel
theorem d_M_drownsBy_73 : decode b_M_drownsBy 73 = .ok (.iconst 1, 1) := by decide +kernel
theorem d_M_drownsBy_74 : decode b_M_drownsBy 74 = .ok (.iadd, 1) := by decide +kernel
theorem d_M_drownsBy_75 : decode b_M_drownsBy 75 = .ok (.invokestatic 78, 3) := by decide +kernel
theorem d_M_drownsBy_78 : decode b_M_drownsBy 78 = .ok (.ifCond .eq 22, 3) := by decide +kernel
theorem d_M_drownsBy_81 : decode b_M_drownsBy 81 = .ok (.aload_n 1, 1) := by decide +kernel
theorem d_M_drownsBy_82 : decode b_M_drownsBy 82 = .ok (.bipush 19, 2) := by decide +kernel
theorem d_M_drownsBy_84 : decode b_M_drownsBy 84 = .ok (.iaload, 1) := by decide +kernel
theorem d_M_drownsBy_85 : decode b_M_drownsBy 85 = .ok (.iload 4, 2) := by decide +kernel
theorem d_M_drownsBy_87 : decode b_M_drownsBy 87 = .ok (.invokestatic 78, 3) := by decide +kernel
theorem d_M_drownsBy_90 : decode b_M_drownsBy 90 = .ok (.ifCond .ne 10, 3) := by decide +kernel
theorem d_M_drownsBy_93 : decode b_M_drownsBy 93 = .ok (.iconst 1, 1) := by decide +kernel
theorem d_M_drownsBy_94 : decode b_M_drownsBy 94 = .ok (.iload 4, 2) := by decide +kernel
theorem d_M_drownsBy_96 : decode b_M_drownsBy 96 = .ok (.ishl, 1) := by decide +kernel
theorem d_M_drownsBy_97 : decode b_M_drownsBy 97 = .ok (.goto 4, 3) := by decide +kernel
theorem d_M_drownsBy_100 : decode b_M_drownsBy 100 = .ok (.iconst 0, 1) := by decide +kernel
theorem d_M_drownsBy_101 : decode b_M_drownsBy 101 = .ok (.ior, 1) := by decide +kernel
theorem d_M_drownsBy_102 : decode b_M_drownsBy 102 = .ok (.istore_n 3, 1) := by decide +kernel
theorem d_M_drownsBy_103 : decode b_M_drownsBy 103 = .ok (.iinc 4 (-1), 3) := by decide +kernel
theorem d_M_drownsBy_106 : decode b_M_drownsBy 106 = .ok (.goto (-42), 3) := by decide +kernel
theorem d_M_drownsBy_109 : decode b_M_drownsBy 109 = .ok (.iload_n 3, 1) := by decide +kernel
theorem d_M_drownsBy_110 : decode b_M_drownsBy 110 = .ok (.ireturn, 1) := by decide +kernel
abbrev b_M_worthOf : ByteArray := prog_5_method_22_code
def y_M_worthOf : MethodName := ⟨R_M, "worthOf", "(I)I"⟩
theorem mc_M_worthOf : Cond.code y_M_worthOf b_M_worthOf 4 (Option.some .int) ∈ lw_use := g_use (List.mem_of_getElem? (i := 647) (by decide +kernel)) rfl
theorem d_M_worthOf_0 : decode b_M_worthOf 0 = .ok (.iconst 0, 1) := by decide +kernel
theorem d_M_worthOf_1 : decode b_M_worthOf 1 = .ok (.istore_n 2, 1) := by decide +kernel
theorem d_M_worthOf_2 : decode b_M_worthOf 2 = .ok (.iconst 0, 1) := by decide +kernel
theorem d_M_worthOf_3 : decode b_M_worthOf 3 = .ok (.istore_n 3, 1) := by decide +kernel
theorem d_M_worthOf_4 : decode b_M_worthOf 4 = .ok (.iload_n 3, 1) := by decide +kernel
theorem d_M_worthOf_5 : decode b_M_worthOf 5 = .ok (.aload_n 0, 1) := by decide +kernel
theorem d_M_worthOf_6 : decode b_M_worthOf 6 = .ok (.getfield 51, 3) := by decide +kernel
theorem d_M_worthOf_9 : decode b_M_worthOf 9 = .ok (.if_icmp .ge 30, 3) := by decide +kernel
theorem d_M_worthOf_12 : decode b_M_worthOf 12 = .ok (.iload_n 2, 1) := by decide +kernel
theorem d_M_worthOf_13 : decode b_M_worthOf 13 = .ok (.iload_n 1, 1) := by decide +kernel
theorem d_M_worthOf_14 : decode b_M_worthOf 14 = .ok (.iload_n 3, 1) := by decide +kernel
theorem d_M_worthOf_15 : decode b_M_worthOf 15 = .ok (.invokestatic 78, 3) := by decide +kernel
theorem d_M_worthOf_18 : decode b_M_worthOf 18 = .ok (.ifCond .eq 12, 3) := by decide +kernel
theorem d_M_worthOf_21 : decode b_M_worthOf 21 = .ok (.aload_n 0, 1) := by decide +kernel
theorem d_M_worthOf_22 : decode b_M_worthOf 22 = .ok (.getfield 16, 3) := by decide +kernel
theorem d_M_worthOf_25 : decode b_M_worthOf 25 = .ok (.iload_n 3, 1) := by decide +kernel
theorem d_M_worthOf_26 : decode b_M_worthOf 26 = .ok (.iaload, 1) := by decide +kernel
theorem d_M_worthOf_27 : decode b_M_worthOf 27 = .ok (.goto 4, 3) := by decide +kernel
theorem d_M_worthOf_30 : decode b_M_worthOf 30 = .ok (.iconst 0, 1) := by decide +kernel
theorem d_M_worthOf_31 : decode b_M_worthOf 31 = .ok (.iadd, 1) := by decide +kernel
theorem d_M_worthOf_32 : decode b_M_worthOf 32 = .ok (.istore_n 2, 1) := by decide +kernel
theorem d_M_worthOf_33 : decode b_M_worthOf 33 = .ok (.iinc 3 1, 3) := by decide +kernel
theorem d_M_worthOf_36 : decode b_M_worthOf 36 = .ok (.goto (-32), 3) := by decide +kernel
theorem d_M_worthOf_39 : decode b_M_worthOf 39 = .ok (.iload_n 2, 1) := by decide +kernel
theorem d_M_worthOf_40 : decode b_M_worthOf 40 = .ok (.ireturn, 1) := by decide +kernel
abbrev b_M_goStorm : ByteArray := prog_5_method_23_code
def y_M_goStorm : MethodName := ⟨R_M, "goStorm", "([II)I"⟩
theorem mc_M_goStorm : Cond.code y_M_goStorm b_M_goStorm 5 (Option.some .int) ∈ lw_use := g_use (List.mem_of_getElem? (i := 635) (by decide +kernel)) rfl
theorem d_M_goStorm_0 : decode b_M_goStorm 0 = .ok (.aload_n 0, 1) := by decide +kernel
theorem d_M_goStorm_1 : decode b_M_goStorm 1 = .ok (.aload_n 1, 1) := by decide +kernel
theorem d_M_goStorm_2 : decode b_M_goStorm 2 = .ok (.iload_n 2, 1) := by decide +kernel
theorem d_M_goStorm_3 : decode b_M_goStorm 3 = .ok (.invokevirtual 105, 3) := by decide +kernel
theorem d_M_goStorm_6 : decode b_M_goStorm 6 = .ok (.istore_n 3, 1) := by decide +kernel
theorem d_M_goStorm_7 : decode b_M_goStorm 7 = .ok (.iconst 0, 1) := by decide +kernel
theorem d_M_goStorm_8 : decode b_M_goStorm 8 = .ok (.istore 4, 2) := by decide +kernel
theorem d_M_goStorm_10 : decode b_M_goStorm 10 = .ok (.iload 4, 2) := by decide +kernel
theorem d_M_goStorm_12 : decode b_M_goStorm 12 = .ok (.aload_n 0, 1) := by decide +kernel
theorem d_M_goStorm_13 : decode b_M_goStorm 13 = .ok (.getfield 51, 3) := by decide +kernel
theorem d_M_goStorm_16 : decode b_M_goStorm 16 = .ok (.if_icmp .ge 58, 3) := by decide +kernel
theorem d_M_goStorm_19 : decode b_M_goStorm 19 = .ok (.iload_n 3, 1) := by decide +kernel
theorem d_M_goStorm_20 : decode b_M_goStorm 20 = .ok (.iload 4, 2) := by decide +kernel
theorem d_M_goStorm_22 : decode b_M_goStorm 22 = .ok (.invokestatic 78, 3) := by decide +kernel
theorem d_M_goStorm_25 : decode b_M_goStorm 25 = .ok (.ifCond .eq 13, 3) := by decide +kernel
theorem d_M_goStorm_28 : decode b_M_goStorm 28 = .ok (.aload_n 1, 1) := by decide +kernel
theorem d_M_goStorm_29 : decode b_M_goStorm 29 = .ok (.iconst 0, 1) := by decide +kernel
theorem d_M_goStorm_30 : decode b_M_goStorm 30 = .ok (.iload 4, 2) := by decide +kernel
theorem d_M_goStorm_32 : decode b_M_goStorm 32 = .ok (.iadd, 1) := by decide +kernel
theorem d_M_goStorm_33 : decode b_M_goStorm 33 = .ok (.iconst 0, 1) := by decide +kernel
theorem d_M_goStorm_34 : decode b_M_goStorm 34 = .ok (.iastore, 1) := by decide +kernel
theorem d_M_goStorm_35 : decode b_M_goStorm 35 = .ok (.goto 33, 3) := by decide +kernel
theorem d_M_goStorm_38 : decode b_M_goStorm 38 = .ok (.aload_n 0, 1) := by decide +kernel
theorem d_M_goStorm_39 : decode b_M_goStorm 39 = .ok (.aload_n 1, 1) := by decide +kernel
theorem d_M_goStorm_40 : decode b_M_goStorm 40 = .ok (.iload 4, 2) := by decide +kernel
theorem d_M_goStorm_42 : decode b_M_goStorm 42 = .ok (.invokevirtual 101, 3) := by decide +kernel
theorem d_M_goStorm_45 : decode b_M_goStorm 45 = .ok (.iload_n 2, 1) := by decide +kernel
theorem d_M_goStorm_46 : decode b_M_goStorm 46 = .ok (.if_icmp .ne 22, 3) := by decide +kernel
theorem d_M_goStorm_49 : decode b_M_goStorm 49 = .ok (.aload_n 1, 1) := by decide +kernel
theorem d_M_goStorm_50 : decode b_M_goStorm 50 = .ok (.iconst 0, 1) := by decide +kernel
theorem d_M_goStorm_51 : decode b_M_goStorm 51 = .ok (.iload 4, 2) := by decide +kernel
theorem d_M_goStorm_53 : decode b_M_goStorm 53 = .ok (.iadd, 1) := by decide +kernel
theorem d_M_goStorm_54 : decode b_M_goStorm 54 = .ok (.iaload, 1) := by decide +kernel
theorem d_M_goStorm_55 : decode b_M_goStorm 55 = .ok (.ifCond .le 13, 3) := by decide +kernel
theorem d_M_goStorm_58 : decode b_M_goStorm 58 = .ok (.aload_n 1, 1) := by decide +kernel
theorem d_M_goStorm_59 : decode b_M_goStorm 59 = .ok (.iconst 0, 1) := by decide +kernel
theorem d_M_goStorm_60 : decode b_M_goStorm 60 = .ok (.iload 4, 2) := by decide +kernel
theorem d_M_goStorm_62 : decode b_M_goStorm 62 = .ok (.iadd, 1) := by decide +kernel
theorem d_M_goStorm_63 : decode b_M_goStorm 63 = .ok (.dup2, 1) := by decide +kernel
theorem d_M_goStorm_64 : decode b_M_goStorm 64 = .ok (.iaload, 1) := by decide +kernel
theorem d_M_goStorm_65 : decode b_M_goStorm 65 = .ok (.iconst 1, 1) := by decide +kernel
theorem d_M_goStorm_66 : decode b_M_goStorm 66 = .ok (.isub, 1) := by decide +kernel
theorem d_M_goStorm_67 : decode b_M_goStorm 67 = .ok (.iastore, 1) := by decide +kernel
theorem d_M_goStorm_68 : decode b_M_goStorm 68 = .ok (.iinc 4 1, 3) := by decide +kernel
theorem d_M_goStorm_71 : decode b_M_goStorm 71 = .ok (.goto (-61), 3) := by decide +kernel
theorem d_M_goStorm_74 : decode b_M_goStorm 74 = .ok (.aload_n 1, 1) := by decide +kernel
theorem d_M_goStorm_75 : decode b_M_goStorm 75 = .ok (.bipush 18, 2) := by decide +kernel
theorem d_M_goStorm_77 : decode b_M_goStorm 77 = .ok (.dup2, 1) := by decide +kernel
theorem d_M_goStorm_78 : decode b_M_goStorm 78 = .ok (.iaload, 1) := by decide +kernel
theorem d_M_goStorm_79 : decode b_M_goStorm 79 = .ok (.iload_n 3, 1) := by decide +kernel
theorem d_M_goStorm_80 : decode b_M_goStorm 80 = .ok (.ior, 1) := by decide +kernel
theorem d_M_goStorm_81 : decode b_M_goStorm 81 = .ok (.iastore, 1) := by decide +kernel
theorem d_M_goStorm_82 : decode b_M_goStorm 82 = .ok (.aload_n 1, 1) := by decide +kernel
theorem d_M_goStorm_83 : decode b_M_goStorm 83 = .ok (.bipush 20, 2) := by decide +kernel
theorem d_M_goStorm_85 : decode b_M_goStorm 85 = .ok (.dup2, 1) := by decide +kernel
theorem d_M_goStorm_86 : decode b_M_goStorm 86 = .ok (.iaload, 1) := by decide +kernel
theorem d_M_goStorm_87 : decode b_M_goStorm 87 = .ok (.iconst 1, 1) := by decide +kernel
theorem d_M_goStorm_88 : decode b_M_goStorm 88 = .ok (.iadd, 1) := by decide +kernel
theorem d_M_goStorm_89 : decode b_M_goStorm 89 = .ok (.iastore, 1) := by decide +kernel
theorem d_M_goStorm_90 : decode b_M_goStorm 90 = .ok (.iload_n 3, 1) := by decide +kernel
theorem d_M_goStorm_91 : decode b_M_goStorm 91 = .ok (.ireturn, 1) := by decide +kernel
abbrev b_M_about : ByteArray := prog_5_method_24_code
def y_M_about : MethodName := ⟨R_M, "about", "(I)I"⟩
theorem mc_M_about : Cond.code y_M_about b_M_about 2 (Option.some .int) ∈ lw_use := g_use (List.mem_of_getElem? (i := 595) (by decide +kernel)) rfl
theorem d_M_about_0 : decode b_M_about 0 = .ok (.aload_n 0, 1) := by decide +kernel
theorem d_M_about_1 : decode b_M_about 1 = .ok (.iconst 0, 1) := by decide +kernel
theorem d_M_about_2 : decode b_M_about 2 = .ok (.putfield 47, 3) := by decide +kernel
theorem d_M_about_5 : decode b_M_about 5 = .ok (.iload_n 1, 1) := by decide +kernel
theorem d_M_about_6 : decode b_M_about 6 = .ok (.tableswitch 90 0 6 #[42, 47, 55, 63, 71, 80, 85], 42) := by decide +kernel
theorem d_M_about_48 : decode b_M_about 48 = .ok (.aload_n 0, 1) := by decide +kernel
theorem d_M_about_49 : decode b_M_about 49 = .ok (.getfield 51, 3) := by decide +kernel
theorem d_M_about_52 : decode b_M_about 52 = .ok (.ireturn, 1) := by decide +kernel
theorem d_M_about_53 : decode b_M_about 53 = .ok (.aload_n 0, 1) := by decide +kernel
theorem d_M_about_54 : decode b_M_about 54 = .ok (.getfield 25, 3) := by decide +kernel
theorem d_M_about_57 : decode b_M_about 57 = .ok (.bipush 19, 2) := by decide +kernel
theorem d_M_about_59 : decode b_M_about 59 = .ok (.iaload, 1) := by decide +kernel
theorem d_M_about_60 : decode b_M_about 60 = .ok (.ireturn, 1) := by decide +kernel
theorem d_M_about_61 : decode b_M_about 61 = .ok (.aload_n 0, 1) := by decide +kernel
theorem d_M_about_62 : decode b_M_about 62 = .ok (.getfield 25, 3) := by decide +kernel
theorem d_M_about_65 : decode b_M_about 65 = .ok (.bipush 18, 2) := by decide +kernel
theorem d_M_about_67 : decode b_M_about 67 = .ok (.iaload, 1) := by decide +kernel
theorem d_M_about_68 : decode b_M_about 68 = .ok (.ireturn, 1) := by decide +kernel
theorem d_M_about_69 : decode b_M_about 69 = .ok (.aload_n 0, 1) := by decide +kernel
theorem d_M_about_70 : decode b_M_about 70 = .ok (.getfield 25, 3) := by decide +kernel
theorem d_M_about_73 : decode b_M_about 73 = .ok (.bipush 20, 2) := by decide +kernel
theorem d_M_about_75 : decode b_M_about 75 = .ok (.iaload, 1) := by decide +kernel
theorem d_M_about_76 : decode b_M_about 76 = .ok (.ireturn, 1) := by decide +kernel
theorem d_M_about_77 : decode b_M_about 77 = .ok (.aload_n 0, 1) := by decide +kernel
theorem d_M_about_78 : decode b_M_about 78 = .ok (.aload_n 0, 1) := by decide +kernel
theorem d_M_about_79 : decode b_M_about 79 = .ok (.invokevirtual 108, 3) := by decide +kernel
theorem d_M_about_82 : decode b_M_about 82 = .ok (.invokevirtual 111, 3) := by decide +kernel
theorem d_M_about_85 : decode b_M_about 85 = .ok (.ireturn, 1) := by decide +kernel
theorem d_M_about_86 : decode b_M_about 86 = .ok (.aload_n 0, 1) := by decide +kernel
theorem d_M_about_87 : decode b_M_about 87 = .ok (.getfield 98, 3) := by decide +kernel
theorem d_M_about_90 : decode b_M_about 90 = .ok (.ireturn, 1) := by decide +kernel
theorem d_M_about_91 : decode b_M_about 91 = .ok (.aload_n 0, 1) := by decide +kernel
theorem d_M_about_92 : decode b_M_about 92 = .ok (.getfield 62, 3) := by decide +kernel
theorem d_M_about_95 : decode b_M_about 95 = .ok (.ireturn, 1) := by decide +kernel
theorem d_M_about_96 : decode b_M_about 96 = .ok (.bipush (-2), 2) := by decide +kernel
theorem d_M_about_98 : decode b_M_about 98 = .ok (.ireturn, 1) := by decide +kernel
abbrev b_M_clayOf : ByteArray := prog_5_method_25_code
def y_M_clayOf : MethodName := ⟨R_M, "clayOf", "(I)I"⟩
theorem mc_M_clayOf : Cond.code y_M_clayOf b_M_clayOf 4 (Option.some .int) ∈ lw_use := g_use (List.mem_of_getElem? (i := 603) (by decide +kernel)) rfl
theorem d_M_clayOf_0 : decode b_M_clayOf 0 = .ok (.iconst 0, 1) := by decide +kernel
theorem d_M_clayOf_1 : decode b_M_clayOf 1 = .ok (.istore_n 2, 1) := by decide +kernel
theorem d_M_clayOf_2 : decode b_M_clayOf 2 = .ok (.iconst 0, 1) := by decide +kernel
theorem d_M_clayOf_3 : decode b_M_clayOf 3 = .ok (.istore_n 3, 1) := by decide +kernel
theorem d_M_clayOf_4 : decode b_M_clayOf 4 = .ok (.iload_n 3, 1) := by decide +kernel
theorem d_M_clayOf_5 : decode b_M_clayOf 5 = .ok (.aload_n 0, 1) := by decide +kernel
theorem d_M_clayOf_6 : decode b_M_clayOf 6 = .ok (.getfield 51, 3) := by decide +kernel
theorem d_M_clayOf_9 : decode b_M_clayOf 9 = .ok (.if_icmp .ge 33, 3) := by decide +kernel
theorem d_M_clayOf_12 : decode b_M_clayOf 12 = .ok (.iload_n 2, 1) := by decide +kernel
theorem d_M_clayOf_13 : decode b_M_clayOf 13 = .ok (.iload_n 1, 1) := by decide +kernel
theorem d_M_clayOf_14 : decode b_M_clayOf 14 = .ok (.iload_n 3, 1) := by decide +kernel
theorem d_M_clayOf_15 : decode b_M_clayOf 15 = .ok (.invokestatic 78, 3) := by decide +kernel
theorem d_M_clayOf_18 : decode b_M_clayOf 18 = .ok (.ifCond .eq 15, 3) := by decide +kernel
theorem d_M_clayOf_21 : decode b_M_clayOf 21 = .ok (.aload_n 0, 1) := by decide +kernel
theorem d_M_clayOf_22 : decode b_M_clayOf 22 = .ok (.getfield 25, 3) := by decide +kernel
theorem d_M_clayOf_25 : decode b_M_clayOf 25 = .ok (.bipush 6, 2) := by decide +kernel
theorem d_M_clayOf_27 : decode b_M_clayOf 27 = .ok (.iload_n 3, 1) := by decide +kernel
theorem d_M_clayOf_28 : decode b_M_clayOf 28 = .ok (.iadd, 1) := by decide +kernel
theorem d_M_clayOf_29 : decode b_M_clayOf 29 = .ok (.iaload, 1) := by decide +kernel
theorem d_M_clayOf_30 : decode b_M_clayOf 30 = .ok (.goto 4, 3) := by decide +kernel
theorem d_M_clayOf_33 : decode b_M_clayOf 33 = .ok (.iconst 0, 1) := by decide +kernel
theorem d_M_clayOf_34 : decode b_M_clayOf 34 = .ok (.iadd, 1) := by decide +kernel
theorem d_M_clayOf_35 : decode b_M_clayOf 35 = .ok (.istore_n 2, 1) := by decide +kernel
theorem d_M_clayOf_36 : decode b_M_clayOf 36 = .ok (.iinc 3 1, 3) := by decide +kernel
theorem d_M_clayOf_39 : decode b_M_clayOf 39 = .ok (.goto (-35), 3) := by decide +kernel
theorem d_M_clayOf_42 : decode b_M_clayOf 42 = .ok (.iload_n 2, 1) := by decide +kernel
theorem d_M_clayOf_43 : decode b_M_clayOf 43 = .ok (.ireturn, 1) := by decide +kernel
abbrev b_M_farm : ByteArray := prog_5_method_26_code
def y_M_farm : MethodName := ⟨R_M, "farm", "(II)I"⟩
theorem mc_M_farm : Cond.code y_M_farm b_M_farm 3 (Option.some .int) ∈ lw_use := g_use (List.mem_of_getElem? (i := 607) (by decide +kernel)) rfl
theorem d_M_farm_0 : decode b_M_farm 0 = .ok (.aload_n 0, 1) := by decide +kernel
theorem d_M_farm_1 : decode b_M_farm 1 = .ok (.iconst 0, 1) := by decide +kernel
theorem d_M_farm_2 : decode b_M_farm 2 = .ok (.putfield 47, 3) := by decide +kernel
theorem d_M_farm_5 : decode b_M_farm 5 = .ok (.aload_n 0, 1) := by decide +kernel
theorem d_M_farm_6 : decode b_M_farm 6 = .ok (.iload_n 1, 1) := by decide +kernel
theorem d_M_farm_7 : decode b_M_farm 7 = .ok (.invokevirtual 115, 3) := by decide +kernel
theorem d_M_farm_10 : decode b_M_farm 10 = .ok (.ifCond .eq 5, 3) := by decide +kernel
theorem d_M_farm_13 : decode b_M_farm 13 = .ok (.iconst (-1), 1) := by decide +kernel
theorem d_M_farm_14 : decode b_M_farm 14 = .ok (.ireturn, 1) := by decide +kernel
theorem d_M_farm_15 : decode b_M_farm 15 = .ok (.iload_n 2, 1) := by decide +kernel
theorem d_M_farm_16 : decode b_M_farm 16 = .ok (.tableswitch 104 0 6 #[44, 53, 60, 70, 77, 84, 94], 44) := by decide +kernel
theorem d_M_farm_60 : decode b_M_farm 60 = .ok (.aload_n 0, 1) := by decide +kernel
theorem d_M_farm_61 : decode b_M_farm 61 = .ok (.getfield 25, 3) := by decide +kernel
theorem d_M_farm_64 : decode b_M_farm 64 = .ok (.iconst 0, 1) := by decide +kernel
theorem d_M_farm_65 : decode b_M_farm 65 = .ok (.iload_n 1, 1) := by decide +kernel
theorem d_M_farm_66 : decode b_M_farm 66 = .ok (.iadd, 1) := by decide +kernel
theorem d_M_farm_67 : decode b_M_farm 67 = .ok (.iaload, 1) := by decide +kernel
theorem d_M_farm_68 : decode b_M_farm 68 = .ok (.ireturn, 1) := by decide +kernel
theorem d_M_farm_69 : decode b_M_farm 69 = .ok (.aload_n 0, 1) := by decide +kernel
theorem d_M_farm_70 : decode b_M_farm 70 = .ok (.getfield 13, 3) := by decide +kernel
theorem d_M_farm_73 : decode b_M_farm 73 = .ok (.iload_n 1, 1) := by decide +kernel
theorem d_M_farm_74 : decode b_M_farm 74 = .ok (.iaload, 1) := by decide +kernel
theorem d_M_farm_75 : decode b_M_farm 75 = .ok (.ireturn, 1) := by decide +kernel
theorem d_M_farm_76 : decode b_M_farm 76 = .ok (.aload_n 0, 1) := by decide +kernel
theorem d_M_farm_77 : decode b_M_farm 77 = .ok (.getfield 25, 3) := by decide +kernel
theorem d_M_farm_80 : decode b_M_farm 80 = .ok (.bipush 6, 2) := by decide +kernel
theorem d_M_farm_82 : decode b_M_farm 82 = .ok (.iload_n 1, 1) := by decide +kernel
theorem d_M_farm_83 : decode b_M_farm 83 = .ok (.iadd, 1) := by decide +kernel
theorem d_M_farm_84 : decode b_M_farm 84 = .ok (.iaload, 1) := by decide +kernel
theorem d_M_farm_85 : decode b_M_farm 85 = .ok (.ireturn, 1) := by decide +kernel
theorem d_M_farm_86 : decode b_M_farm 86 = .ok (.aload_n 0, 1) := by decide +kernel
theorem d_M_farm_87 : decode b_M_farm 87 = .ok (.getfield 16, 3) := by decide +kernel
theorem d_M_farm_90 : decode b_M_farm 90 = .ok (.iload_n 1, 1) := by decide +kernel
theorem d_M_farm_91 : decode b_M_farm 91 = .ok (.iaload, 1) := by decide +kernel
theorem d_M_farm_92 : decode b_M_farm 92 = .ok (.ireturn, 1) := by decide +kernel
theorem d_M_farm_93 : decode b_M_farm 93 = .ok (.aload_n 0, 1) := by decide +kernel
theorem d_M_farm_94 : decode b_M_farm 94 = .ok (.getfield 19, 3) := by decide +kernel
theorem d_M_farm_97 : decode b_M_farm 97 = .ok (.iload_n 1, 1) := by decide +kernel
theorem d_M_farm_98 : decode b_M_farm 98 = .ok (.iaload, 1) := by decide +kernel
theorem d_M_farm_99 : decode b_M_farm 99 = .ok (.ireturn, 1) := by decide +kernel
theorem d_M_farm_100 : decode b_M_farm 100 = .ok (.aload_n 0, 1) := by decide +kernel
theorem d_M_farm_101 : decode b_M_farm 101 = .ok (.getfield 25, 3) := by decide +kernel
theorem d_M_farm_104 : decode b_M_farm 104 = .ok (.bipush 12, 2) := by decide +kernel
theorem d_M_farm_106 : decode b_M_farm 106 = .ok (.iload_n 1, 1) := by decide +kernel
theorem d_M_farm_107 : decode b_M_farm 107 = .ok (.iadd, 1) := by decide +kernel
theorem d_M_farm_108 : decode b_M_farm 108 = .ok (.iaload, 1) := by decide +kernel
theorem d_M_farm_109 : decode b_M_farm 109 = .ok (.ireturn, 1) := by decide +kernel
theorem d_M_farm_110 : decode b_M_farm 110 = .ok (.aload_n 0, 1) := by decide +kernel
theorem d_M_farm_111 : decode b_M_farm 111 = .ok (.aload_n 0, 1) := by decide +kernel
theorem d_M_farm_112 : decode b_M_farm 112 = .ok (.getfield 25, 3) := by decide +kernel
theorem d_M_farm_115 : decode b_M_farm 115 = .ok (.iload_n 1, 1) := by decide +kernel
theorem d_M_farm_116 : decode b_M_farm 116 = .ok (.invokevirtual 101, 3) := by decide +kernel
theorem d_M_farm_119 : decode b_M_farm 119 = .ok (.ireturn, 1) := by decide +kernel
theorem d_M_farm_120 : decode b_M_farm 120 = .ok (.bipush (-2), 2) := by decide +kernel
theorem d_M_farm_122 : decode b_M_farm 122 = .ok (.ireturn, 1) := by decide +kernel
abbrev b_M_owes : ByteArray := prog_5_method_27_code
def y_M_owes : MethodName := ⟨R_M, "owes", "(II)I"⟩
theorem mc_M_owes : Cond.code y_M_owes b_M_owes 3 (Option.some .int) ∈ lw_use := g_use (List.mem_of_getElem? (i := 619) (by decide +kernel)) rfl
theorem d_M_owes_0 : decode b_M_owes 0 = .ok (.aload_n 0, 1) := by decide +kernel
theorem d_M_owes_1 : decode b_M_owes 1 = .ok (.iconst 0, 1) := by decide +kernel
theorem d_M_owes_2 : decode b_M_owes 2 = .ok (.putfield 47, 3) := by decide +kernel
theorem d_M_owes_5 : decode b_M_owes 5 = .ok (.aload_n 0, 1) := by decide +kernel
theorem d_M_owes_6 : decode b_M_owes 6 = .ok (.iload_n 1, 1) := by decide +kernel
theorem d_M_owes_7 : decode b_M_owes 7 = .ok (.invokevirtual 115, 3) := by decide +kernel
theorem d_M_owes_10 : decode b_M_owes 10 = .ok (.ifCond .ne 11, 3) := by decide +kernel
theorem d_M_owes_13 : decode b_M_owes 13 = .ok (.aload_n 0, 1) := by decide +kernel
theorem d_M_owes_14 : decode b_M_owes 14 = .ok (.iload_n 2, 1) := by decide +kernel
theorem d_M_owes_15 : decode b_M_owes 15 = .ok (.invokevirtual 115, 3) := by decide +kernel
theorem d_M_owes_18 : decode b_M_owes 18 = .ok (.ifCond .eq 7, 3) := by decide +kernel
theorem d_M_owes_21 : decode b_M_owes 21 = .ok (.iconst (-1), 1) := by decide +kernel
theorem d_M_owes_22 : decode b_M_owes 22 = .ok (.goto 17, 3) := by decide +kernel
theorem d_M_owes_25 : decode b_M_owes 25 = .ok (.aload_n 0, 1) := by decide +kernel
theorem d_M_owes_26 : decode b_M_owes 26 = .ok (.getfield 25, 3) := by decide +kernel
theorem d_M_owes_29 : decode b_M_owes 29 = .ok (.bipush 21, 2) := by decide +kernel
theorem d_M_owes_31 : decode b_M_owes 31 = .ok (.bipush 6, 2) := by decide +kernel
theorem d_M_owes_33 : decode b_M_owes 33 = .ok (.iload_n 1, 1) := by decide +kernel
theorem d_M_owes_34 : decode b_M_owes 34 = .ok (.imul, 1) := by decide +kernel
theorem d_M_owes_35 : decode b_M_owes 35 = .ok (.iadd, 1) := by decide +kernel
theorem d_M_owes_36 : decode b_M_owes 36 = .ok (.iload_n 2, 1) := by decide +kernel
theorem d_M_owes_37 : decode b_M_owes 37 = .ok (.iadd, 1) := by decide +kernel
theorem d_M_owes_38 : decode b_M_owes 38 = .ok (.iaload, 1) := by decide +kernel
theorem d_M_owes_39 : decode b_M_owes 39 = .ok (.ireturn, 1) := by decide +kernel
abbrev b_M_note : ByteArray := prog_5_method_28_code
def y_M_note : MethodName := ⟨R_M, "note", "()V"⟩
theorem mc_M_note : Cond.code y_M_note b_M_note 2 none ∈ lw_use := g_use (List.mem_of_getElem? (i := 631) (by decide +kernel)) rfl
theorem d_M_note_0 : decode b_M_note 0 = .ok (.aload_n 0, 1) := by decide +kernel
theorem d_M_note_1 : decode b_M_note 1 = .ok (.getfield 98, 3) := by decide +kernel
theorem d_M_note_4 : decode b_M_note 4 = .ok (.bipush 14, 2) := by decide +kernel
theorem d_M_note_6 : decode b_M_note 6 = .ok (.if_icmp .ne 43, 3) := by decide +kernel
theorem d_M_note_9 : decode b_M_note 9 = .ok (.iconst 0, 1) := by decide +kernel
theorem d_M_note_10 : decode b_M_note 10 = .ok (.istore_n 1, 1) := by decide +kernel
theorem d_M_note_11 : decode b_M_note 11 = .ok (.iload_n 1, 1) := by decide +kernel
theorem d_M_note_12 : decode b_M_note 12 = .ok (.sipush 741, 3) := by decide +kernel
theorem d_M_note_15 : decode b_M_note 15 = .ok (.if_icmp .ge 24, 3) := by decide +kernel
theorem d_M_note_18 : decode b_M_note 18 = .ok (.aload_n 0, 1) := by decide +kernel
theorem d_M_note_19 : decode b_M_note 19 = .ok (.getfield 31, 3) := by decide +kernel
theorem d_M_note_22 : decode b_M_note 22 = .ok (.iload_n 1, 1) := by decide +kernel
theorem d_M_note_23 : decode b_M_note 23 = .ok (.aload_n 0, 1) := by decide +kernel
theorem d_M_note_24 : decode b_M_note 24 = .ok (.getfield 31, 3) := by decide +kernel
theorem d_M_note_27 : decode b_M_note 27 = .ok (.iload_n 1, 1) := by decide +kernel
theorem d_M_note_28 : decode b_M_note 28 = .ok (.bipush 57, 2) := by decide +kernel
theorem d_M_note_30 : decode b_M_note 30 = .ok (.iadd, 1) := by decide +kernel
theorem d_M_note_31 : decode b_M_note 31 = .ok (.iaload, 1) := by decide +kernel
theorem d_M_note_32 : decode b_M_note 32 = .ok (.iastore, 1) := by decide +kernel
theorem d_M_note_33 : decode b_M_note 33 = .ok (.iinc 1 1, 3) := by decide +kernel
theorem d_M_note_36 : decode b_M_note 36 = .ok (.goto (-25), 3) := by decide +kernel
theorem d_M_note_39 : decode b_M_note 39 = .ok (.aload_n 0, 1) := by decide +kernel
theorem d_M_note_40 : decode b_M_note 40 = .ok (.dup, 1) := by decide +kernel
theorem d_M_note_41 : decode b_M_note 41 = .ok (.getfield 98, 3) := by decide +kernel
theorem d_M_note_44 : decode b_M_note 44 = .ok (.iconst 1, 1) := by decide +kernel
theorem d_M_note_45 : decode b_M_note 45 = .ok (.isub, 1) := by decide +kernel
theorem d_M_note_46 : decode b_M_note 46 = .ok (.putfield 98, 3) := by decide +kernel
theorem d_M_note_49 : decode b_M_note 49 = .ok (.iconst 0, 1) := by decide +kernel
theorem d_M_note_50 : decode b_M_note 50 = .ok (.istore_n 1, 1) := by decide +kernel
theorem d_M_note_51 : decode b_M_note 51 = .ok (.iload_n 1, 1) := by decide +kernel
theorem d_M_note_52 : decode b_M_note 52 = .ok (.bipush 57, 2) := by decide +kernel
theorem d_M_note_54 : decode b_M_note 54 = .ok (.if_icmp .ge 29, 3) := by decide +kernel
theorem d_M_note_57 : decode b_M_note 57 = .ok (.aload_n 0, 1) := by decide +kernel
theorem d_M_note_58 : decode b_M_note 58 = .ok (.getfield 31, 3) := by decide +kernel
theorem d_M_note_61 : decode b_M_note 61 = .ok (.bipush 57, 2) := by decide +kernel
theorem d_M_note_63 : decode b_M_note 63 = .ok (.aload_n 0, 1) := by decide +kernel
theorem d_M_note_64 : decode b_M_note 64 = .ok (.getfield 98, 3) := by decide +kernel
theorem d_M_note_67 : decode b_M_note 67 = .ok (.imul, 1) := by decide +kernel
theorem d_M_note_68 : decode b_M_note 68 = .ok (.iload_n 1, 1) := by decide +kernel
theorem d_M_note_69 : decode b_M_note 69 = .ok (.iadd, 1) := by decide +kernel
theorem d_M_note_70 : decode b_M_note 70 = .ok (.aload_n 0, 1) := by decide +kernel
theorem d_M_note_71 : decode b_M_note 71 = .ok (.getfield 25, 3) := by decide +kernel
theorem d_M_note_74 : decode b_M_note 74 = .ok (.iload_n 1, 1) := by decide +kernel
theorem d_M_note_75 : decode b_M_note 75 = .ok (.iaload, 1) := by decide +kernel
theorem d_M_note_76 : decode b_M_note 76 = .ok (.iastore, 1) := by decide +kernel
theorem d_M_note_77 : decode b_M_note 77 = .ok (.iinc 1 1, 3) := by decide +kernel
theorem d_M_note_80 : decode b_M_note 80 = .ok (.goto (-29), 3) := by decide +kernel
theorem d_M_note_83 : decode b_M_note 83 = .ok (.aload_n 0, 1) := by decide +kernel
theorem d_M_note_84 : decode b_M_note 84 = .ok (.dup, 1) := by decide +kernel
theorem d_M_note_85 : decode b_M_note 85 = .ok (.getfield 98, 3) := by decide +kernel
theorem d_M_note_88 : decode b_M_note 88 = .ok (.iconst 1, 1) := by decide +kernel
theorem d_M_note_89 : decode b_M_note 89 = .ok (.iadd, 1) := by decide +kernel
theorem d_M_note_90 : decode b_M_note 90 = .ok (.putfield 98, 3) := by decide +kernel
theorem d_M_note_93 : decode b_M_note 93 = .ok (.return_, 1) := by decide +kernel
abbrev b_M_storm : ByteArray := prog_5_method_29_code
def y_M_storm : MethodName := ⟨R_M, "storm", "(I)I"⟩
theorem mc_M_storm : Cond.code y_M_storm b_M_storm 2 (Option.some .int) ∈ lw_use := g_use (List.mem_of_getElem? (i := 623) (by decide +kernel)) rfl
theorem d_M_storm_0 : decode b_M_storm 0 = .ok (.aload_n 0, 1) := by decide +kernel
theorem d_M_storm_1 : decode b_M_storm 1 = .ok (.iconst 0, 1) := by decide +kernel
theorem d_M_storm_2 : decode b_M_storm 2 = .ok (.putfield 47, 3) := by decide +kernel
theorem d_M_storm_5 : decode b_M_storm 5 = .ok (.iload_n 1, 1) := by decide +kernel
theorem d_M_storm_6 : decode b_M_storm 6 = .ok (.invokestatic 119, 3) := by decide +kernel
theorem d_M_storm_9 : decode b_M_storm 9 = .ok (.ifCond .eq 6, 3) := by decide +kernel
theorem d_M_storm_12 : decode b_M_storm 12 = .ok (.bipush (-2), 2) := by decide +kernel
theorem d_M_storm_14 : decode b_M_storm 14 = .ok (.ireturn, 1) := by decide +kernel
theorem d_M_storm_15 : decode b_M_storm 15 = .ok (.aload_n 0, 1) := by decide +kernel
theorem d_M_storm_16 : decode b_M_storm 16 = .ok (.invokevirtual 122, 3) := by decide +kernel
theorem d_M_storm_19 : decode b_M_storm 19 = .ok (.aload_n 0, 1) := by decide +kernel
theorem d_M_storm_20 : decode b_M_storm 20 = .ok (.aload_n 0, 1) := by decide +kernel
theorem d_M_storm_21 : decode b_M_storm 21 = .ok (.aload_n 0, 1) := by decide +kernel
theorem d_M_storm_22 : decode b_M_storm 22 = .ok (.getfield 25, 3) := by decide +kernel
theorem d_M_storm_25 : decode b_M_storm 25 = .ok (.aload_n 0, 1) := by decide +kernel
theorem d_M_storm_26 : decode b_M_storm 26 = .ok (.aload_n 0, 1) := by decide +kernel
theorem d_M_storm_27 : decode b_M_storm 27 = .ok (.getfield 25, 3) := by decide +kernel
theorem d_M_storm_30 : decode b_M_storm 30 = .ok (.iload_n 1, 1) := by decide +kernel
theorem d_M_storm_31 : decode b_M_storm 31 = .ok (.invokevirtual 125, 3) := by decide +kernel
theorem d_M_storm_34 : decode b_M_storm 34 = .ok (.invokevirtual 128, 3) := by decide +kernel
theorem d_M_storm_37 : decode b_M_storm 37 = .ok (.invokevirtual 131, 3) := by decide +kernel
theorem d_M_storm_40 : decode b_M_storm 40 = .ok (.ireturn, 1) := by decide +kernel
abbrev b_M_carry : ByteArray := prog_5_method_30_code
def y_M_carry : MethodName := ⟨R_M, "carry", "(II)I"⟩
theorem mc_M_carry : Cond.code y_M_carry b_M_carry 3 (Option.some .int) ∈ lw_use := g_use (List.mem_of_getElem? (i := 651) (by decide +kernel)) rfl
theorem d_M_carry_0 : decode b_M_carry 0 = .ok (.aload_n 0, 1) := by decide +kernel
theorem d_M_carry_1 : decode b_M_carry 1 = .ok (.iconst 0, 1) := by decide +kernel
theorem d_M_carry_2 : decode b_M_carry 2 = .ok (.putfield 47, 3) := by decide +kernel
theorem d_M_carry_5 : decode b_M_carry 5 = .ok (.aload_n 0, 1) := by decide +kernel
theorem d_M_carry_6 : decode b_M_carry 6 = .ok (.iload_n 1, 1) := by decide +kernel
theorem d_M_carry_7 : decode b_M_carry 7 = .ok (.invokevirtual 115, 3) := by decide +kernel
theorem d_M_carry_10 : decode b_M_carry 10 = .ok (.ifCond .ne 11, 3) := by decide +kernel
theorem d_M_carry_13 : decode b_M_carry 13 = .ok (.aload_n 0, 1) := by decide +kernel
theorem d_M_carry_14 : decode b_M_carry 14 = .ok (.iload_n 2, 1) := by decide +kernel
theorem d_M_carry_15 : decode b_M_carry 15 = .ok (.invokevirtual 115, 3) := by decide +kernel
theorem d_M_carry_18 : decode b_M_carry 18 = .ok (.ifCond .eq 5, 3) := by decide +kernel
theorem d_M_carry_21 : decode b_M_carry 21 = .ok (.iconst (-1), 1) := by decide +kernel
theorem d_M_carry_22 : decode b_M_carry 22 = .ok (.ireturn, 1) := by decide +kernel
theorem d_M_carry_23 : decode b_M_carry 23 = .ok (.aload_n 0, 1) := by decide +kernel
theorem d_M_carry_24 : decode b_M_carry 24 = .ok (.getfield 25, 3) := by decide +kernel
theorem d_M_carry_27 : decode b_M_carry 27 = .ok (.bipush 6, 2) := by decide +kernel
theorem d_M_carry_29 : decode b_M_carry 29 = .ok (.iload_n 1, 1) := by decide +kernel
theorem d_M_carry_30 : decode b_M_carry 30 = .ok (.iadd, 1) := by decide +kernel
theorem d_M_carry_31 : decode b_M_carry 31 = .ok (.iaload, 1) := by decide +kernel
theorem d_M_carry_32 : decode b_M_carry 32 = .ok (.ifCond .ne 6, 3) := by decide +kernel
theorem d_M_carry_35 : decode b_M_carry 35 = .ok (.bipush (-3), 2) := by decide +kernel
theorem d_M_carry_37 : decode b_M_carry 37 = .ok (.ireturn, 1) := by decide +kernel
theorem d_M_carry_38 : decode b_M_carry 38 = .ok (.aload_n 0, 1) := by decide +kernel
theorem d_M_carry_39 : decode b_M_carry 39 = .ok (.getfield 25, 3) := by decide +kernel
theorem d_M_carry_42 : decode b_M_carry 42 = .ok (.iconst 0, 1) := by decide +kernel
theorem d_M_carry_43 : decode b_M_carry 43 = .ok (.iload_n 2, 1) := by decide +kernel
theorem d_M_carry_44 : decode b_M_carry 44 = .ok (.iadd, 1) := by decide +kernel
theorem d_M_carry_45 : decode b_M_carry 45 = .ok (.iaload, 1) := by decide +kernel
theorem d_M_carry_46 : decode b_M_carry 46 = .ok (.bipush 15, 2) := by decide +kernel
theorem d_M_carry_48 : decode b_M_carry 48 = .ok (.if_icmp .lt 6, 3) := by decide +kernel
theorem d_M_carry_51 : decode b_M_carry 51 = .ok (.bipush (-4), 2) := by decide +kernel
theorem d_M_carry_53 : decode b_M_carry 53 = .ok (.ireturn, 1) := by decide +kernel
theorem d_M_carry_54 : decode b_M_carry 54 = .ok (.aload_n 0, 1) := by decide +kernel
theorem d_M_carry_55 : decode b_M_carry 55 = .ok (.invokevirtual 122, 3) := by decide +kernel
theorem d_M_carry_58 : decode b_M_carry 58 = .ok (.aload_n 0, 1) := by decide +kernel
theorem d_M_carry_59 : decode b_M_carry 59 = .ok (.getfield 25, 3) := by decide +kernel
theorem d_M_carry_62 : decode b_M_carry 62 = .ok (.bipush 6, 2) := by decide +kernel
theorem d_M_carry_64 : decode b_M_carry 64 = .ok (.iload_n 1, 1) := by decide +kernel
theorem d_M_carry_65 : decode b_M_carry 65 = .ok (.iadd, 1) := by decide +kernel
theorem d_M_carry_66 : decode b_M_carry 66 = .ok (.dup2, 1) := by decide +kernel
theorem d_M_carry_67 : decode b_M_carry 67 = .ok (.iaload, 1) := by decide +kernel
theorem d_M_carry_68 : decode b_M_carry 68 = .ok (.iconst 1, 1) := by decide +kernel
theorem d_M_carry_69 : decode b_M_carry 69 = .ok (.isub, 1) := by decide +kernel
theorem d_M_carry_70 : decode b_M_carry 70 = .ok (.iastore, 1) := by decide +kernel
theorem d_M_carry_71 : decode b_M_carry 71 = .ok (.aload_n 0, 1) := by decide +kernel
theorem d_M_carry_72 : decode b_M_carry 72 = .ok (.getfield 25, 3) := by decide +kernel
theorem d_M_carry_75 : decode b_M_carry 75 = .ok (.iconst 0, 1) := by decide +kernel
theorem d_M_carry_76 : decode b_M_carry 76 = .ok (.iload_n 2, 1) := by decide +kernel
theorem d_M_carry_77 : decode b_M_carry 77 = .ok (.iadd, 1) := by decide +kernel
theorem d_M_carry_78 : decode b_M_carry 78 = .ok (.dup2, 1) := by decide +kernel
theorem d_M_carry_79 : decode b_M_carry 79 = .ok (.iaload, 1) := by decide +kernel
theorem d_M_carry_80 : decode b_M_carry 80 = .ok (.iconst 1, 1) := by decide +kernel
theorem d_M_carry_81 : decode b_M_carry 81 = .ok (.iadd, 1) := by decide +kernel
theorem d_M_carry_82 : decode b_M_carry 82 = .ok (.iastore, 1) := by decide +kernel
theorem d_M_carry_83 : decode b_M_carry 83 = .ok (.aload_n 0, 1) := by decide +kernel
theorem d_M_carry_84 : decode b_M_carry 84 = .ok (.getfield 25, 3) := by decide +kernel
theorem d_M_carry_87 : decode b_M_carry 87 = .ok (.iconst 0, 1) := by decide +kernel
theorem d_M_carry_88 : decode b_M_carry 88 = .ok (.iload_n 2, 1) := by decide +kernel
theorem d_M_carry_89 : decode b_M_carry 89 = .ok (.iadd, 1) := by decide +kernel
theorem d_M_carry_90 : decode b_M_carry 90 = .ok (.iaload, 1) := by decide +kernel
theorem d_M_carry_91 : decode b_M_carry 91 = .ok (.ireturn, 1) := by decide +kernel
abbrev b_M_lend : ByteArray := prog_5_method_31_code
def y_M_lend : MethodName := ⟨R_M, "lend", "(II)I"⟩
theorem mc_M_lend : Cond.code y_M_lend b_M_lend 3 (Option.some .int) ∈ lw_use := g_use (List.mem_of_getElem? (i := 655) (by decide +kernel)) rfl
theorem d_M_lend_0 : decode b_M_lend 0 = .ok (.aload_n 0, 1) := by decide +kernel
theorem d_M_lend_1 : decode b_M_lend 1 = .ok (.iconst 0, 1) := by decide +kernel
theorem d_M_lend_2 : decode b_M_lend 2 = .ok (.putfield 47, 3) := by decide +kernel
theorem d_M_lend_5 : decode b_M_lend 5 = .ok (.aload_n 0, 1) := by decide +kernel
theorem d_M_lend_6 : decode b_M_lend 6 = .ok (.iload_n 1, 1) := by decide +kernel
theorem d_M_lend_7 : decode b_M_lend 7 = .ok (.invokevirtual 115, 3) := by decide +kernel
theorem d_M_lend_10 : decode b_M_lend 10 = .ok (.ifCond .ne 11, 3) := by decide +kernel
theorem d_M_lend_13 : decode b_M_lend 13 = .ok (.aload_n 0, 1) := by decide +kernel
theorem d_M_lend_14 : decode b_M_lend 14 = .ok (.iload_n 2, 1) := by decide +kernel
theorem d_M_lend_15 : decode b_M_lend 15 = .ok (.invokevirtual 115, 3) := by decide +kernel
theorem d_M_lend_18 : decode b_M_lend 18 = .ok (.ifCond .eq 5, 3) := by decide +kernel
theorem d_M_lend_21 : decode b_M_lend 21 = .ok (.iconst (-1), 1) := by decide +kernel
theorem d_M_lend_22 : decode b_M_lend 22 = .ok (.ireturn, 1) := by decide +kernel
theorem d_M_lend_23 : decode b_M_lend 23 = .ok (.iload_n 1, 1) := by decide +kernel
theorem d_M_lend_24 : decode b_M_lend 24 = .ok (.iload_n 2, 1) := by decide +kernel
theorem d_M_lend_25 : decode b_M_lend 25 = .ok (.if_icmp .ne 6, 3) := by decide +kernel
theorem d_M_lend_28 : decode b_M_lend 28 = .ok (.bipush (-2), 2) := by decide +kernel
theorem d_M_lend_30 : decode b_M_lend 30 = .ok (.ireturn, 1) := by decide +kernel
theorem d_M_lend_31 : decode b_M_lend 31 = .ok (.aload_n 0, 1) := by decide +kernel
theorem d_M_lend_32 : decode b_M_lend 32 = .ok (.getfield 25, 3) := by decide +kernel
theorem d_M_lend_35 : decode b_M_lend 35 = .ok (.bipush 6, 2) := by decide +kernel
theorem d_M_lend_37 : decode b_M_lend 37 = .ok (.iload_n 1, 1) := by decide +kernel
theorem d_M_lend_38 : decode b_M_lend 38 = .ok (.iadd, 1) := by decide +kernel
theorem d_M_lend_39 : decode b_M_lend 39 = .ok (.iaload, 1) := by decide +kernel
theorem d_M_lend_40 : decode b_M_lend 40 = .ok (.ifCond .ne 6, 3) := by decide +kernel
theorem d_M_lend_43 : decode b_M_lend 43 = .ok (.bipush (-3), 2) := by decide +kernel
theorem d_M_lend_45 : decode b_M_lend 45 = .ok (.ireturn, 1) := by decide +kernel
theorem d_M_lend_46 : decode b_M_lend 46 = .ok (.aload_n 0, 1) := by decide +kernel
theorem d_M_lend_47 : decode b_M_lend 47 = .ok (.invokevirtual 122, 3) := by decide +kernel
theorem d_M_lend_50 : decode b_M_lend 50 = .ok (.aload_n 0, 1) := by decide +kernel
theorem d_M_lend_51 : decode b_M_lend 51 = .ok (.getfield 25, 3) := by decide +kernel
theorem d_M_lend_54 : decode b_M_lend 54 = .ok (.bipush 6, 2) := by decide +kernel
theorem d_M_lend_56 : decode b_M_lend 56 = .ok (.iload_n 1, 1) := by decide +kernel
theorem d_M_lend_57 : decode b_M_lend 57 = .ok (.iadd, 1) := by decide +kernel
theorem d_M_lend_58 : decode b_M_lend 58 = .ok (.dup2, 1) := by decide +kernel
theorem d_M_lend_59 : decode b_M_lend 59 = .ok (.iaload, 1) := by decide +kernel
theorem d_M_lend_60 : decode b_M_lend 60 = .ok (.iconst 1, 1) := by decide +kernel
theorem d_M_lend_61 : decode b_M_lend 61 = .ok (.isub, 1) := by decide +kernel
theorem d_M_lend_62 : decode b_M_lend 62 = .ok (.iastore, 1) := by decide +kernel
theorem d_M_lend_63 : decode b_M_lend 63 = .ok (.aload_n 0, 1) := by decide +kernel
theorem d_M_lend_64 : decode b_M_lend 64 = .ok (.getfield 25, 3) := by decide +kernel
theorem d_M_lend_67 : decode b_M_lend 67 = .ok (.bipush 6, 2) := by decide +kernel
theorem d_M_lend_69 : decode b_M_lend 69 = .ok (.iload_n 2, 1) := by decide +kernel
theorem d_M_lend_70 : decode b_M_lend 70 = .ok (.iadd, 1) := by decide +kernel
theorem d_M_lend_71 : decode b_M_lend 71 = .ok (.dup2, 1) := by decide +kernel
theorem d_M_lend_72 : decode b_M_lend 72 = .ok (.iaload, 1) := by decide +kernel
theorem d_M_lend_73 : decode b_M_lend 73 = .ok (.iconst 1, 1) := by decide +kernel
theorem d_M_lend_74 : decode b_M_lend 74 = .ok (.iadd, 1) := by decide +kernel
theorem d_M_lend_75 : decode b_M_lend 75 = .ok (.iastore, 1) := by decide +kernel
theorem d_M_lend_76 : decode b_M_lend 76 = .ok (.aload_n 0, 1) := by decide +kernel
theorem d_M_lend_77 : decode b_M_lend 77 = .ok (.getfield 25, 3) := by decide +kernel
theorem d_M_lend_80 : decode b_M_lend 80 = .ok (.bipush 21, 2) := by decide +kernel
theorem d_M_lend_82 : decode b_M_lend 82 = .ok (.bipush 6, 2) := by decide +kernel
theorem d_M_lend_84 : decode b_M_lend 84 = .ok (.iload_n 2, 1) := by decide +kernel
theorem d_M_lend_85 : decode b_M_lend 85 = .ok (.imul, 1) := by decide +kernel
theorem d_M_lend_86 : decode b_M_lend 86 = .ok (.iadd, 1) := by decide +kernel
theorem d_M_lend_87 : decode b_M_lend 87 = .ok (.iload_n 1, 1) := by decide +kernel
theorem d_M_lend_88 : decode b_M_lend 88 = .ok (.iadd, 1) := by decide +kernel
theorem d_M_lend_89 : decode b_M_lend 89 = .ok (.dup2, 1) := by decide +kernel
theorem d_M_lend_90 : decode b_M_lend 90 = .ok (.iaload, 1) := by decide +kernel
theorem d_M_lend_91 : decode b_M_lend 91 = .ok (.iconst 1, 1) := by decide +kernel
theorem d_M_lend_92 : decode b_M_lend 92 = .ok (.iadd, 1) := by decide +kernel
theorem d_M_lend_93 : decode b_M_lend 93 = .ok (.iastore, 1) := by decide +kernel
theorem d_M_lend_94 : decode b_M_lend 94 = .ok (.aload_n 0, 1) := by decide +kernel
theorem d_M_lend_95 : decode b_M_lend 95 = .ok (.getfield 25, 3) := by decide +kernel
theorem d_M_lend_98 : decode b_M_lend 98 = .ok (.bipush 21, 2) := by decide +kernel
theorem d_M_lend_100 : decode b_M_lend 100 = .ok (.bipush 6, 2) := by decide +kernel
theorem d_M_lend_102 : decode b_M_lend 102 = .ok (.iload_n 2, 1) := by decide +kernel
theorem d_M_lend_103 : decode b_M_lend 103 = .ok (.imul, 1) := by decide +kernel
theorem d_M_lend_104 : decode b_M_lend 104 = .ok (.iadd, 1) := by decide +kernel
theorem d_M_lend_105 : decode b_M_lend 105 = .ok (.iload_n 1, 1) := by decide +kernel
theorem d_M_lend_106 : decode b_M_lend 106 = .ok (.iadd, 1) := by decide +kernel
theorem d_M_lend_107 : decode b_M_lend 107 = .ok (.iaload, 1) := by decide +kernel
theorem d_M_lend_108 : decode b_M_lend 108 = .ok (.ireturn, 1) := by decide +kernel
abbrev b_M_stick : ByteArray := prog_5_method_32_code
def y_M_stick : MethodName := ⟨R_M, "stick", "(I)I"⟩
theorem mc_M_stick : Cond.code y_M_stick b_M_stick 2 (Option.some .int) ∈ lw_use := g_use (List.mem_of_getElem? (i := 659) (by decide +kernel)) rfl
theorem d_M_stick_0 : decode b_M_stick 0 = .ok (.aload_n 0, 1) := by decide +kernel
theorem d_M_stick_1 : decode b_M_stick 1 = .ok (.iconst 0, 1) := by decide +kernel
theorem d_M_stick_2 : decode b_M_stick 2 = .ok (.putfield 47, 3) := by decide +kernel
theorem d_M_stick_5 : decode b_M_stick 5 = .ok (.aload_n 0, 1) := by decide +kernel
theorem d_M_stick_6 : decode b_M_stick 6 = .ok (.iload_n 1, 1) := by decide +kernel
theorem d_M_stick_7 : decode b_M_stick 7 = .ok (.invokevirtual 115, 3) := by decide +kernel
theorem d_M_stick_10 : decode b_M_stick 10 = .ok (.ifCond .eq 5, 3) := by decide +kernel
theorem d_M_stick_13 : decode b_M_stick 13 = .ok (.iconst (-1), 1) := by decide +kernel
theorem d_M_stick_14 : decode b_M_stick 14 = .ok (.ireturn, 1) := by decide +kernel
theorem d_M_stick_15 : decode b_M_stick 15 = .ok (.aload_n 0, 1) := by decide +kernel
theorem d_M_stick_16 : decode b_M_stick 16 = .ok (.getfield 25, 3) := by decide +kernel
theorem d_M_stick_19 : decode b_M_stick 19 = .ok (.bipush 18, 2) := by decide +kernel
theorem d_M_stick_21 : decode b_M_stick 21 = .ok (.iaload, 1) := by decide +kernel
theorem d_M_stick_22 : decode b_M_stick 22 = .ok (.iload_n 1, 1) := by decide +kernel
theorem d_M_stick_23 : decode b_M_stick 23 = .ok (.invokestatic 78, 3) := by decide +kernel
theorem d_M_stick_26 : decode b_M_stick 26 = .ok (.ifCond .eq 6, 3) := by decide +kernel
theorem d_M_stick_29 : decode b_M_stick 29 = .ok (.bipush (-3), 2) := by decide +kernel
theorem d_M_stick_31 : decode b_M_stick 31 = .ok (.ireturn, 1) := by decide +kernel
theorem d_M_stick_32 : decode b_M_stick 32 = .ok (.aload_n 0, 1) := by decide +kernel
theorem d_M_stick_33 : decode b_M_stick 33 = .ok (.invokevirtual 122, 3) := by decide +kernel
theorem d_M_stick_36 : decode b_M_stick 36 = .ok (.aload_n 0, 1) := by decide +kernel
theorem d_M_stick_37 : decode b_M_stick 37 = .ok (.getfield 25, 3) := by decide +kernel
theorem d_M_stick_40 : decode b_M_stick 40 = .ok (.bipush 18, 2) := by decide +kernel
theorem d_M_stick_42 : decode b_M_stick 42 = .ok (.dup2, 1) := by decide +kernel
theorem d_M_stick_43 : decode b_M_stick 43 = .ok (.iaload, 1) := by decide +kernel
theorem d_M_stick_44 : decode b_M_stick 44 = .ok (.iconst 1, 1) := by decide +kernel
theorem d_M_stick_45 : decode b_M_stick 45 = .ok (.iload_n 1, 1) := by decide +kernel
theorem d_M_stick_46 : decode b_M_stick 46 = .ok (.ishl, 1) := by decide +kernel
theorem d_M_stick_47 : decode b_M_stick 47 = .ok (.ior, 1) := by decide +kernel
theorem d_M_stick_48 : decode b_M_stick 48 = .ok (.iastore, 1) := by decide +kernel
theorem d_M_stick_49 : decode b_M_stick 49 = .ok (.aload_n 0, 1) := by decide +kernel
theorem d_M_stick_50 : decode b_M_stick 50 = .ok (.getfield 25, 3) := by decide +kernel
theorem d_M_stick_53 : decode b_M_stick 53 = .ok (.bipush 12, 2) := by decide +kernel
theorem d_M_stick_55 : decode b_M_stick 55 = .ok (.iload_n 1, 1) := by decide +kernel
theorem d_M_stick_56 : decode b_M_stick 56 = .ok (.iadd, 1) := by decide +kernel
theorem d_M_stick_57 : decode b_M_stick 57 = .ok (.iaload, 1) := by decide +kernel
theorem d_M_stick_58 : decode b_M_stick 58 = .ok (.ireturn, 1) := by decide +kernel
abbrev b_M_pull : ByteArray := prog_5_method_33_code
def y_M_pull : MethodName := ⟨R_M, "pull", "(II)I"⟩
theorem mc_M_pull : Cond.code y_M_pull b_M_pull 4 (Option.some .int) ∈ lw_use := g_use (List.mem_of_getElem? (i := 663) (by decide +kernel)) rfl
theorem d_M_pull_0 : decode b_M_pull 0 = .ok (.aload_n 0, 1) := by decide +kernel
theorem d_M_pull_1 : decode b_M_pull 1 = .ok (.iconst 0, 1) := by decide +kernel
theorem d_M_pull_2 : decode b_M_pull 2 = .ok (.putfield 47, 3) := by decide +kernel
theorem d_M_pull_5 : decode b_M_pull 5 = .ok (.aload_n 0, 1) := by decide +kernel
theorem d_M_pull_6 : decode b_M_pull 6 = .ok (.iload_n 1, 1) := by decide +kernel
theorem d_M_pull_7 : decode b_M_pull 7 = .ok (.invokevirtual 115, 3) := by decide +kernel
theorem d_M_pull_10 : decode b_M_pull 10 = .ok (.ifCond .ne 11, 3) := by decide +kernel
theorem d_M_pull_13 : decode b_M_pull 13 = .ok (.aload_n 0, 1) := by decide +kernel
theorem d_M_pull_14 : decode b_M_pull 14 = .ok (.iload_n 2, 1) := by decide +kernel
theorem d_M_pull_15 : decode b_M_pull 15 = .ok (.invokevirtual 115, 3) := by decide +kernel
theorem d_M_pull_18 : decode b_M_pull 18 = .ok (.ifCond .eq 5, 3) := by decide +kernel
theorem d_M_pull_21 : decode b_M_pull 21 = .ok (.iconst (-1), 1) := by decide +kernel
theorem d_M_pull_22 : decode b_M_pull 22 = .ok (.ireturn, 1) := by decide +kernel
theorem d_M_pull_23 : decode b_M_pull 23 = .ok (.aload_n 0, 1) := by decide +kernel
theorem d_M_pull_24 : decode b_M_pull 24 = .ok (.getfield 25, 3) := by decide +kernel
theorem d_M_pull_27 : decode b_M_pull 27 = .ok (.bipush 18, 2) := by decide +kernel
theorem d_M_pull_29 : decode b_M_pull 29 = .ok (.iaload, 1) := by decide +kernel
theorem d_M_pull_30 : decode b_M_pull 30 = .ok (.iload_n 2, 1) := by decide +kernel
theorem d_M_pull_31 : decode b_M_pull 31 = .ok (.invokestatic 78, 3) := by decide +kernel
theorem d_M_pull_34 : decode b_M_pull 34 = .ok (.ifCond .ne 6, 3) := by decide +kernel
theorem d_M_pull_37 : decode b_M_pull 37 = .ok (.bipush (-3), 2) := by decide +kernel
theorem d_M_pull_39 : decode b_M_pull 39 = .ok (.ireturn, 1) := by decide +kernel
theorem d_M_pull_40 : decode b_M_pull 40 = .ok (.aload_n 0, 1) := by decide +kernel
theorem d_M_pull_41 : decode b_M_pull 41 = .ok (.invokevirtual 122, 3) := by decide +kernel
theorem d_M_pull_44 : decode b_M_pull 44 = .ok (.aload_n 0, 1) := by decide +kernel
theorem d_M_pull_45 : decode b_M_pull 45 = .ok (.getfield 25, 3) := by decide +kernel
theorem d_M_pull_48 : decode b_M_pull 48 = .ok (.bipush 12, 2) := by decide +kernel
theorem d_M_pull_50 : decode b_M_pull 50 = .ok (.iload_n 2, 1) := by decide +kernel
theorem d_M_pull_51 : decode b_M_pull 51 = .ok (.iadd, 1) := by decide +kernel
theorem d_M_pull_52 : decode b_M_pull 52 = .ok (.iaload, 1) := by decide +kernel
theorem d_M_pull_53 : decode b_M_pull 53 = .ok (.istore_n 3, 1) := by decide +kernel
theorem d_M_pull_54 : decode b_M_pull 54 = .ok (.aload_n 0, 1) := by decide +kernel
theorem d_M_pull_55 : decode b_M_pull 55 = .ok (.getfield 25, 3) := by decide +kernel
theorem d_M_pull_58 : decode b_M_pull 58 = .ok (.bipush 18, 2) := by decide +kernel
theorem d_M_pull_60 : decode b_M_pull 60 = .ok (.dup2, 1) := by decide +kernel
theorem d_M_pull_61 : decode b_M_pull 61 = .ok (.iaload, 1) := by decide +kernel
theorem d_M_pull_62 : decode b_M_pull 62 = .ok (.iconst 1, 1) := by decide +kernel
theorem d_M_pull_63 : decode b_M_pull 63 = .ok (.iload_n 2, 1) := by decide +kernel
theorem d_M_pull_64 : decode b_M_pull 64 = .ok (.ishl, 1) := by decide +kernel
theorem d_M_pull_65 : decode b_M_pull 65 = .ok (.iconst (-1), 1) := by decide +kernel
theorem d_M_pull_66 : decode b_M_pull 66 = .ok (.ixor, 1) := by decide +kernel
theorem d_M_pull_67 : decode b_M_pull 67 = .ok (.iand, 1) := by decide +kernel
theorem d_M_pull_68 : decode b_M_pull 68 = .ok (.iastore, 1) := by decide +kernel
theorem d_M_pull_69 : decode b_M_pull 69 = .ok (.aload_n 0, 1) := by decide +kernel
theorem d_M_pull_70 : decode b_M_pull 70 = .ok (.getfield 25, 3) := by decide +kernel
theorem d_M_pull_73 : decode b_M_pull 73 = .ok (.bipush 12, 2) := by decide +kernel
theorem d_M_pull_75 : decode b_M_pull 75 = .ok (.iload_n 2, 1) := by decide +kernel
theorem d_M_pull_76 : decode b_M_pull 76 = .ok (.iadd, 1) := by decide +kernel
theorem d_M_pull_77 : decode b_M_pull 77 = .ok (.iload_n 1, 1) := by decide +kernel
theorem d_M_pull_78 : decode b_M_pull 78 = .ok (.iastore, 1) := by decide +kernel
theorem d_M_pull_79 : decode b_M_pull 79 = .ok (.iload_n 3, 1) := by decide +kernel
theorem d_M_pull_80 : decode b_M_pull 80 = .ok (.ireturn, 1) := by decide +kernel
abbrev b_M_dam : ByteArray := prog_5_method_34_code
def y_M_dam : MethodName := ⟨R_M, "dam", "(I)I"⟩
theorem mc_M_dam : Cond.code y_M_dam b_M_dam 2 (Option.some .int) ∈ lw_use := g_use (List.mem_of_getElem? (i := 667) (by decide +kernel)) rfl
theorem d_M_dam_0 : decode b_M_dam 0 = .ok (.aload_n 0, 1) := by decide +kernel
theorem d_M_dam_1 : decode b_M_dam 1 = .ok (.iconst 0, 1) := by decide +kernel
theorem d_M_dam_2 : decode b_M_dam 2 = .ok (.putfield 47, 3) := by decide +kernel
theorem d_M_dam_5 : decode b_M_dam 5 = .ok (.iload_n 1, 1) := by decide +kernel
theorem d_M_dam_6 : decode b_M_dam 6 = .ok (.i2l, 1) := by decide +kernel
theorem d_M_dam_7 : decode b_M_dam 7 = .ok (.lconst 0, 1) := by decide +kernel
theorem d_M_dam_8 : decode b_M_dam 8 = .ok (.aload_n 0, 1) := by decide +kernel
theorem d_M_dam_9 : decode b_M_dam 9 = .ok (.getfield 51, 3) := by decide +kernel
theorem d_M_dam_12 : decode b_M_dam 12 = .ok (.iconst 2, 1) := by decide +kernel
theorem d_M_dam_13 : decode b_M_dam 13 = .ok (.isub, 1) := by decide +kernel
theorem d_M_dam_14 : decode b_M_dam 14 = .ok (.i2l, 1) := by decide +kernel
theorem d_M_dam_15 : decode b_M_dam 15 = .ok (.invokestatic 54, 3) := by decide +kernel
theorem d_M_dam_18 : decode b_M_dam 18 = .ok (.ifCond .ne 5, 3) := by decide +kernel
theorem d_M_dam_21 : decode b_M_dam 21 = .ok (.iconst (-1), 1) := by decide +kernel
theorem d_M_dam_22 : decode b_M_dam 22 = .ok (.ireturn, 1) := by decide +kernel
theorem d_M_dam_23 : decode b_M_dam 23 = .ok (.aload_n 0, 1) := by decide +kernel
theorem d_M_dam_24 : decode b_M_dam 24 = .ok (.invokevirtual 122, 3) := by decide +kernel
theorem d_M_dam_27 : decode b_M_dam 27 = .ok (.aload_n 0, 1) := by decide +kernel
theorem d_M_dam_28 : decode b_M_dam 28 = .ok (.getfield 25, 3) := by decide +kernel
theorem d_M_dam_31 : decode b_M_dam 31 = .ok (.bipush 19, 2) := by decide +kernel
theorem d_M_dam_33 : decode b_M_dam 33 = .ok (.dup2, 1) := by decide +kernel
theorem d_M_dam_34 : decode b_M_dam 34 = .ok (.iaload, 1) := by decide +kernel
theorem d_M_dam_35 : decode b_M_dam 35 = .ok (.iconst 1, 1) := by decide +kernel
theorem d_M_dam_36 : decode b_M_dam 36 = .ok (.iload_n 1, 1) := by decide +kernel
theorem d_M_dam_37 : decode b_M_dam 37 = .ok (.ishl, 1) := by decide +kernel
theorem d_M_dam_38 : decode b_M_dam 38 = .ok (.ixor, 1) := by decide +kernel
theorem d_M_dam_39 : decode b_M_dam 39 = .ok (.iastore, 1) := by decide +kernel
theorem d_M_dam_40 : decode b_M_dam 40 = .ok (.aload_n 0, 1) := by decide +kernel
theorem d_M_dam_41 : decode b_M_dam 41 = .ok (.getfield 25, 3) := by decide +kernel
theorem d_M_dam_44 : decode b_M_dam 44 = .ok (.bipush 19, 2) := by decide +kernel
theorem d_M_dam_46 : decode b_M_dam 46 = .ok (.iaload, 1) := by decide +kernel
theorem d_M_dam_47 : decode b_M_dam 47 = .ok (.iload_n 1, 1) := by decide +kernel
theorem d_M_dam_48 : decode b_M_dam 48 = .ok (.ishr, 1) := by decide +kernel
theorem d_M_dam_49 : decode b_M_dam 49 = .ok (.iconst 1, 1) := by decide +kernel
theorem d_M_dam_50 : decode b_M_dam 50 = .ok (.iand, 1) := by decide +kernel
theorem d_M_dam_51 : decode b_M_dam 51 = .ok (.ireturn, 1) := by decide +kernel
abbrev b_M_undo : ByteArray := prog_5_method_35_code
def y_M_undo : MethodName := ⟨R_M, "undo", "()I"⟩
theorem mc_M_undo : Cond.code y_M_undo b_M_undo 2 (Option.some .int) ∈ lw_use := g_use (List.mem_of_getElem? (i := 671) (by decide +kernel)) rfl
theorem d_M_undo_0 : decode b_M_undo 0 = .ok (.aload_n 0, 1) := by decide +kernel
theorem d_M_undo_1 : decode b_M_undo 1 = .ok (.iconst 0, 1) := by decide +kernel
theorem d_M_undo_2 : decode b_M_undo 2 = .ok (.putfield 47, 3) := by decide +kernel
theorem d_M_undo_5 : decode b_M_undo 5 = .ok (.aload_n 0, 1) := by decide +kernel
theorem d_M_undo_6 : decode b_M_undo 6 = .ok (.getfield 98, 3) := by decide +kernel
theorem d_M_undo_9 : decode b_M_undo 9 = .ok (.ifCond .ne 6, 3) := by decide +kernel
theorem d_M_undo_12 : decode b_M_undo 12 = .ok (.bipush (-3), 2) := by decide +kernel
theorem d_M_undo_14 : decode b_M_undo 14 = .ok (.ireturn, 1) := by decide +kernel
theorem d_M_undo_15 : decode b_M_undo 15 = .ok (.aload_n 0, 1) := by decide +kernel
theorem d_M_undo_16 : decode b_M_undo 16 = .ok (.dup, 1) := by decide +kernel
theorem d_M_undo_17 : decode b_M_undo 17 = .ok (.getfield 98, 3) := by decide +kernel
theorem d_M_undo_20 : decode b_M_undo 20 = .ok (.iconst 1, 1) := by decide +kernel
theorem d_M_undo_21 : decode b_M_undo 21 = .ok (.isub, 1) := by decide +kernel
theorem d_M_undo_22 : decode b_M_undo 22 = .ok (.putfield 98, 3) := by decide +kernel
theorem d_M_undo_25 : decode b_M_undo 25 = .ok (.iconst 0, 1) := by decide +kernel
theorem d_M_undo_26 : decode b_M_undo 26 = .ok (.istore_n 1, 1) := by decide +kernel
theorem d_M_undo_27 : decode b_M_undo 27 = .ok (.iload_n 1, 1) := by decide +kernel
theorem d_M_undo_28 : decode b_M_undo 28 = .ok (.bipush 57, 2) := by decide +kernel
theorem d_M_undo_30 : decode b_M_undo 30 = .ok (.if_icmp .ge 29, 3) := by decide +kernel
theorem d_M_undo_33 : decode b_M_undo 33 = .ok (.aload_n 0, 1) := by decide +kernel
theorem d_M_undo_34 : decode b_M_undo 34 = .ok (.getfield 25, 3) := by decide +kernel
theorem d_M_undo_37 : decode b_M_undo 37 = .ok (.iload_n 1, 1) := by decide +kernel
theorem d_M_undo_38 : decode b_M_undo 38 = .ok (.aload_n 0, 1) := by decide +kernel
theorem d_M_undo_39 : decode b_M_undo 39 = .ok (.getfield 31, 3) := by decide +kernel
theorem d_M_undo_42 : decode b_M_undo 42 = .ok (.bipush 57, 2) := by decide +kernel
theorem d_M_undo_44 : decode b_M_undo 44 = .ok (.aload_n 0, 1) := by decide +kernel
theorem d_M_undo_45 : decode b_M_undo 45 = .ok (.getfield 98, 3) := by decide +kernel
theorem d_M_undo_48 : decode b_M_undo 48 = .ok (.imul, 1) := by decide +kernel
theorem d_M_undo_49 : decode b_M_undo 49 = .ok (.iload_n 1, 1) := by decide +kernel
theorem d_M_undo_50 : decode b_M_undo 50 = .ok (.iadd, 1) := by decide +kernel
theorem d_M_undo_51 : decode b_M_undo 51 = .ok (.iaload, 1) := by decide +kernel
theorem d_M_undo_52 : decode b_M_undo 52 = .ok (.iastore, 1) := by decide +kernel
theorem d_M_undo_53 : decode b_M_undo 53 = .ok (.iinc 1 1, 3) := by decide +kernel
theorem d_M_undo_56 : decode b_M_undo 56 = .ok (.goto (-29), 3) := by decide +kernel
theorem d_M_undo_59 : decode b_M_undo 59 = .ok (.aload_n 0, 1) := by decide +kernel
theorem d_M_undo_60 : decode b_M_undo 60 = .ok (.getfield 98, 3) := by decide +kernel
theorem d_M_undo_63 : decode b_M_undo 63 = .ok (.ireturn, 1) := by decide +kernel
abbrev b_M_begin : ByteArray := prog_5_method_36_code
def y_M_begin : MethodName := ⟨R_M, "begin", "()V"⟩
theorem mc_M_begin : Cond.code y_M_begin b_M_begin 2 none ∈ lw_use := g_use (List.mem_of_getElem? (i := 724) (by decide +kernel)) rfl
theorem d_M_begin_0 : decode b_M_begin 0 = .ok (.iconst 0, 1) := by decide +kernel
theorem d_M_begin_1 : decode b_M_begin 1 = .ok (.istore_n 1, 1) := by decide +kernel
theorem d_M_begin_2 : decode b_M_begin 2 = .ok (.iload_n 1, 1) := by decide +kernel
theorem d_M_begin_3 : decode b_M_begin 3 = .ok (.bipush 57, 2) := by decide +kernel
theorem d_M_begin_5 : decode b_M_begin 5 = .ok (.if_icmp .ge 21, 3) := by decide +kernel
theorem d_M_begin_8 : decode b_M_begin 8 = .ok (.aload_n 0, 1) := by decide +kernel
theorem d_M_begin_9 : decode b_M_begin 9 = .ok (.getfield 28, 3) := by decide +kernel
theorem d_M_begin_12 : decode b_M_begin 12 = .ok (.iload_n 1, 1) := by decide +kernel
theorem d_M_begin_13 : decode b_M_begin 13 = .ok (.aload_n 0, 1) := by decide +kernel
theorem d_M_begin_14 : decode b_M_begin 14 = .ok (.getfield 25, 3) := by decide +kernel
theorem d_M_begin_17 : decode b_M_begin 17 = .ok (.iload_n 1, 1) := by decide +kernel
theorem d_M_begin_18 : decode b_M_begin 18 = .ok (.iaload, 1) := by decide +kernel
theorem d_M_begin_19 : decode b_M_begin 19 = .ok (.iastore, 1) := by decide +kernel
theorem d_M_begin_20 : decode b_M_begin 20 = .ok (.iinc 1 1, 3) := by decide +kernel
theorem d_M_begin_23 : decode b_M_begin 23 = .ok (.goto (-21), 3) := by decide +kernel
theorem d_M_begin_26 : decode b_M_begin 26 = .ok (.return_, 1) := by decide +kernel
abbrev b_M_breaks : ByteArray := prog_5_method_37_code
def y_M_breaks : MethodName := ⟨R_M, "breaks", "(I)I"⟩
theorem mc_M_breaks : Cond.code y_M_breaks b_M_breaks 2 (Option.some .int) ∈ lw_use := g_use (List.mem_of_getElem? (i := 675) (by decide +kernel)) rfl
theorem d_M_breaks_0 : decode b_M_breaks 0 = .ok (.aload_n 0, 1) := by decide +kernel
theorem d_M_breaks_1 : decode b_M_breaks 1 = .ok (.iconst 0, 1) := by decide +kernel
theorem d_M_breaks_2 : decode b_M_breaks 2 = .ok (.putfield 47, 3) := by decide +kernel
theorem d_M_breaks_5 : decode b_M_breaks 5 = .ok (.iload_n 1, 1) := by decide +kernel
theorem d_M_breaks_6 : decode b_M_breaks 6 = .ok (.invokestatic 119, 3) := by decide +kernel
theorem d_M_breaks_9 : decode b_M_breaks 9 = .ok (.ifCond .eq 8, 3) := by decide +kernel
theorem d_M_breaks_12 : decode b_M_breaks 12 = .ok (.bipush (-2), 2) := by decide +kernel
theorem d_M_breaks_14 : decode b_M_breaks 14 = .ok (.goto 12, 3) := by decide +kernel
theorem d_M_breaks_17 : decode b_M_breaks 17 = .ok (.aload_n 0, 1) := by decide +kernel
theorem d_M_breaks_18 : decode b_M_breaks 18 = .ok (.aload_n 0, 1) := by decide +kernel
theorem d_M_breaks_19 : decode b_M_breaks 19 = .ok (.getfield 25, 3) := by decide +kernel
theorem d_M_breaks_22 : decode b_M_breaks 22 = .ok (.iload_n 1, 1) := by decide +kernel
theorem d_M_breaks_23 : decode b_M_breaks 23 = .ok (.invokevirtual 105, 3) := by decide +kernel
theorem d_M_breaks_26 : decode b_M_breaks 26 = .ok (.ireturn, 1) := by decide +kernel
abbrev b_M_drowns : ByteArray := prog_5_method_38_code
def y_M_drowns : MethodName := ⟨R_M, "drowns", "(I)I"⟩
theorem mc_M_drowns : Cond.code y_M_drowns b_M_drowns 2 (Option.some .int) ∈ lw_use := g_use (List.mem_of_getElem? (i := 679) (by decide +kernel)) rfl
theorem d_M_drowns_0 : decode b_M_drowns 0 = .ok (.aload_n 0, 1) := by decide +kernel
theorem d_M_drowns_1 : decode b_M_drowns 1 = .ok (.iconst 0, 1) := by decide +kernel
theorem d_M_drowns_2 : decode b_M_drowns 2 = .ok (.putfield 47, 3) := by decide +kernel
theorem d_M_drowns_5 : decode b_M_drowns 5 = .ok (.iload_n 1, 1) := by decide +kernel
theorem d_M_drowns_6 : decode b_M_drowns 6 = .ok (.invokestatic 119, 3) := by decide +kernel
theorem d_M_drowns_9 : decode b_M_drowns 9 = .ok (.ifCond .eq 8, 3) := by decide +kernel
theorem d_M_drowns_12 : decode b_M_drowns 12 = .ok (.bipush (-2), 2) := by decide +kernel
theorem d_M_drowns_14 : decode b_M_drowns 14 = .ok (.goto 20, 3) := by decide +kernel
theorem d_M_drowns_17 : decode b_M_drowns 17 = .ok (.aload_n 0, 1) := by decide +kernel
theorem d_M_drowns_18 : decode b_M_drowns 18 = .ok (.aload_n 0, 1) := by decide +kernel
theorem d_M_drowns_19 : decode b_M_drowns 19 = .ok (.getfield 25, 3) := by decide +kernel
theorem d_M_drowns_22 : decode b_M_drowns 22 = .ok (.aload_n 0, 1) := by decide +kernel
theorem d_M_drowns_23 : decode b_M_drowns 23 = .ok (.aload_n 0, 1) := by decide +kernel
theorem d_M_drowns_24 : decode b_M_drowns 24 = .ok (.getfield 25, 3) := by decide +kernel
theorem d_M_drowns_27 : decode b_M_drowns 27 = .ok (.iload_n 1, 1) := by decide +kernel
theorem d_M_drowns_28 : decode b_M_drowns 28 = .ok (.invokevirtual 105, 3) := by decide +kernel
theorem d_M_drowns_31 : decode b_M_drowns 31 = .ok (.invokevirtual 128, 3) := by decide +kernel
theorem d_M_drowns_34 : decode b_M_drowns 34 = .ok (.ireturn, 1) := by decide +kernel
abbrev b_M_loss : ByteArray := prog_5_method_39_code
def y_M_loss : MethodName := ⟨R_M, "loss", "(I)I"⟩
theorem mc_M_loss : Cond.code y_M_loss b_M_loss 2 (Option.some .int) ∈ lw_use := g_use (List.mem_of_getElem? (i := 683) (by decide +kernel)) rfl
theorem d_M_loss_0 : decode b_M_loss 0 = .ok (.aload_n 0, 1) := by decide +kernel
theorem d_M_loss_1 : decode b_M_loss 1 = .ok (.iconst 0, 1) := by decide +kernel
theorem d_M_loss_2 : decode b_M_loss 2 = .ok (.putfield 47, 3) := by decide +kernel
theorem d_M_loss_5 : decode b_M_loss 5 = .ok (.iload_n 1, 1) := by decide +kernel
theorem d_M_loss_6 : decode b_M_loss 6 = .ok (.invokestatic 119, 3) := by decide +kernel
theorem d_M_loss_9 : decode b_M_loss 9 = .ok (.ifCond .eq 8, 3) := by decide +kernel
theorem d_M_loss_12 : decode b_M_loss 12 = .ok (.bipush (-2), 2) := by decide +kernel
theorem d_M_loss_14 : decode b_M_loss 14 = .ok (.goto 24, 3) := by decide +kernel
theorem d_M_loss_17 : decode b_M_loss 17 = .ok (.aload_n 0, 1) := by decide +kernel
theorem d_M_loss_18 : decode b_M_loss 18 = .ok (.aload_n 0, 1) := by decide +kernel
theorem d_M_loss_19 : decode b_M_loss 19 = .ok (.aload_n 0, 1) := by decide +kernel
theorem d_M_loss_20 : decode b_M_loss 20 = .ok (.getfield 25, 3) := by decide +kernel
theorem d_M_loss_23 : decode b_M_loss 23 = .ok (.aload_n 0, 1) := by decide +kernel
theorem d_M_loss_24 : decode b_M_loss 24 = .ok (.aload_n 0, 1) := by decide +kernel
theorem d_M_loss_25 : decode b_M_loss 25 = .ok (.getfield 25, 3) := by decide +kernel
theorem d_M_loss_28 : decode b_M_loss 28 = .ok (.iload_n 1, 1) := by decide +kernel
theorem d_M_loss_29 : decode b_M_loss 29 = .ok (.invokevirtual 105, 3) := by decide +kernel
theorem d_M_loss_32 : decode b_M_loss 32 = .ok (.invokevirtual 128, 3) := by decide +kernel
theorem d_M_loss_35 : decode b_M_loss 35 = .ok (.invokevirtual 131, 3) := by decide +kernel
theorem d_M_loss_38 : decode b_M_loss 38 = .ok (.ireturn, 1) := by decide +kernel
abbrev b_M_clayFor : ByteArray := prog_5_method_40_code
def y_M_clayFor : MethodName := ⟨R_M, "clayFor", "(II)I"⟩
theorem mc_M_clayFor : Cond.code y_M_clayFor b_M_clayFor 6 (Option.some .int) ∈ lw_use := g_use (List.mem_of_getElem? (i := 691) (by decide +kernel)) rfl
theorem d_M_clayFor_0 : decode b_M_clayFor 0 = .ok (.iconst 0, 1) := by decide +kernel
theorem d_M_clayFor_1 : decode b_M_clayFor 1 = .ok (.istore_n 3, 1) := by decide +kernel
theorem d_M_clayFor_2 : decode b_M_clayFor 2 = .ok (.iconst 0, 1) := by decide +kernel
theorem d_M_clayFor_3 : decode b_M_clayFor 3 = .ok (.istore 4, 2) := by decide +kernel
theorem d_M_clayFor_5 : decode b_M_clayFor 5 = .ok (.iload 4, 2) := by decide +kernel
theorem d_M_clayFor_7 : decode b_M_clayFor 7 = .ok (.aload_n 0, 1) := by decide +kernel
theorem d_M_clayFor_8 : decode b_M_clayFor 8 = .ok (.getfield 51, 3) := by decide +kernel
theorem d_M_clayFor_11 : decode b_M_clayFor 11 = .ok (.if_icmp .ge 46, 3) := by decide +kernel
theorem d_M_clayFor_14 : decode b_M_clayFor 14 = .ok (.iload_n 2, 1) := by decide +kernel
theorem d_M_clayFor_15 : decode b_M_clayFor 15 = .ok (.aload_n 0, 1) := by decide +kernel
theorem d_M_clayFor_16 : decode b_M_clayFor 16 = .ok (.aload_n 0, 1) := by decide +kernel
theorem d_M_clayFor_17 : decode b_M_clayFor 17 = .ok (.getfield 25, 3) := by decide +kernel
theorem d_M_clayFor_20 : decode b_M_clayFor 20 = .ok (.iload 4, 2) := by decide +kernel
theorem d_M_clayFor_22 : decode b_M_clayFor 22 = .ok (.invokevirtual 101, 3) := by decide +kernel
theorem d_M_clayFor_25 : decode b_M_clayFor 25 = .ok (.isub, 1) := by decide +kernel
theorem d_M_clayFor_26 : decode b_M_clayFor 26 = .ok (.istore 5, 2) := by decide +kernel
theorem d_M_clayFor_28 : decode b_M_clayFor 28 = .ok (.iload_n 3, 1) := by decide +kernel
theorem d_M_clayFor_29 : decode b_M_clayFor 29 = .ok (.iload_n 1, 1) := by decide +kernel
theorem d_M_clayFor_30 : decode b_M_clayFor 30 = .ok (.iload 4, 2) := by decide +kernel
theorem d_M_clayFor_32 : decode b_M_clayFor 32 = .ok (.invokestatic 78, 3) := by decide +kernel
theorem d_M_clayFor_35 : decode b_M_clayFor 35 = .ok (.ifCond .eq 13, 3) := by decide +kernel
theorem d_M_clayFor_38 : decode b_M_clayFor 38 = .ok (.iload 5, 2) := by decide +kernel
theorem d_M_clayFor_40 : decode b_M_clayFor 40 = .ok (.ifCond .le 8, 3) := by decide +kernel
theorem d_M_clayFor_43 : decode b_M_clayFor 43 = .ok (.iload 5, 2) := by decide +kernel
theorem d_M_clayFor_45 : decode b_M_clayFor 45 = .ok (.goto 4, 3) := by decide +kernel
theorem d_M_clayFor_48 : decode b_M_clayFor 48 = .ok (.iconst 0, 1) := by decide +kernel
theorem d_M_clayFor_49 : decode b_M_clayFor 49 = .ok (.iadd, 1) := by decide +kernel
theorem d_M_clayFor_50 : decode b_M_clayFor 50 = .ok (.istore_n 3, 1) := by decide +kernel
theorem d_M_clayFor_51 : decode b_M_clayFor 51 = .ok (.iinc 4 1, 3) := by decide +kernel
theorem d_M_clayFor_54 : decode b_M_clayFor 54 = .ok (.goto (-49), 3) := by decide +kernel
theorem d_M_clayFor_57 : decode b_M_clayFor 57 = .ok (.iload_n 3, 1) := by decide +kernel
theorem d_M_clayFor_58 : decode b_M_clayFor 58 = .ok (.ireturn, 1) := by decide +kernel
abbrev b_M_needs : ByteArray := prog_5_method_41_code
def y_M_needs : MethodName := ⟨R_M, "needs", "(I)I"⟩
theorem mc_M_needs : Cond.code y_M_needs b_M_needs 2 (Option.some .int) ∈ lw_use := g_use (List.mem_of_getElem? (i := 687) (by decide +kernel)) rfl
theorem d_M_needs_0 : decode b_M_needs 0 = .ok (.aload_n 0, 1) := by decide +kernel
theorem d_M_needs_1 : decode b_M_needs 1 = .ok (.iconst 0, 1) := by decide +kernel
theorem d_M_needs_2 : decode b_M_needs 2 = .ok (.putfield 47, 3) := by decide +kernel
theorem d_M_needs_5 : decode b_M_needs 5 = .ok (.iload_n 1, 1) := by decide +kernel
theorem d_M_needs_6 : decode b_M_needs 6 = .ok (.invokestatic 119, 3) := by decide +kernel
theorem d_M_needs_9 : decode b_M_needs 9 = .ok (.ifCond .eq 8, 3) := by decide +kernel
theorem d_M_needs_12 : decode b_M_needs 12 = .ok (.bipush (-2), 2) := by decide +kernel
theorem d_M_needs_14 : decode b_M_needs 14 = .ok (.goto 12, 3) := by decide +kernel
theorem d_M_needs_17 : decode b_M_needs 17 = .ok (.aload_n 0, 1) := by decide +kernel
theorem d_M_needs_18 : decode b_M_needs 18 = .ok (.aload_n 0, 1) := by decide +kernel
theorem d_M_needs_19 : decode b_M_needs 19 = .ok (.invokevirtual 108, 3) := by decide +kernel
theorem d_M_needs_22 : decode b_M_needs 22 = .ok (.iload_n 1, 1) := by decide +kernel
theorem d_M_needs_23 : decode b_M_needs 23 = .ok (.invokevirtual 134, 3) := by decide +kernel
theorem d_M_needs_26 : decode b_M_needs 26 = .ok (.ireturn, 1) := by decide +kernel
abbrev b_M_findPlacing : ByteArray := prog_5_method_42_code
def y_M_findPlacing : MethodName := ⟨R_M, "findPlacing", "(II)V"⟩
theorem mc_M_findPlacing : Cond.code y_M_findPlacing b_M_findPlacing 10 none ∈ lw_use := g_use (List.mem_of_getElem? (i := 700) (by decide +kernel)) rfl
theorem d_M_findPlacing_0 : decode b_M_findPlacing 0 = .ok (.aload_n 0, 1) := by decide +kernel
theorem d_M_findPlacing_1 : decode b_M_findPlacing 1 = .ok (.aload_n 0, 1) := by decide +kernel
theorem d_M_findPlacing_2 : decode b_M_findPlacing 2 = .ok (.getfield 25, 3) := by decide +kernel
theorem d_M_findPlacing_5 : decode b_M_findPlacing 5 = .ok (.iload_n 2, 1) := by decide +kernel
theorem d_M_findPlacing_6 : decode b_M_findPlacing 6 = .ok (.invokevirtual 105, 3) := by decide +kernel
theorem d_M_findPlacing_9 : decode b_M_findPlacing 9 = .ok (.istore_n 3, 1) := by decide +kernel
theorem d_M_findPlacing_10 : decode b_M_findPlacing 10 = .ok (.sipush 9999, 3) := by decide +kernel
theorem d_M_findPlacing_13 : decode b_M_findPlacing 13 = .ok (.istore 4, 2) := by decide +kernel
theorem d_M_findPlacing_15 : decode b_M_findPlacing 15 = .ok (.aload_n 0, 1) := by decide +kernel
theorem d_M_findPlacing_16 : decode b_M_findPlacing 16 = .ok (.sipush 9999, 3) := by decide +kernel
theorem d_M_findPlacing_19 : decode b_M_findPlacing 19 = .ok (.putfield 137, 3) := by decide +kernel
theorem d_M_findPlacing_22 : decode b_M_findPlacing 22 = .ok (.aload_n 0, 1) := by decide +kernel
theorem d_M_findPlacing_23 : decode b_M_findPlacing 23 = .ok (.bipush (-9), 2) := by decide +kernel
theorem d_M_findPlacing_25 : decode b_M_findPlacing 25 = .ok (.putfield 140, 3) := by decide +kernel
theorem d_M_findPlacing_28 : decode b_M_findPlacing 28 = .ok (.iconst 0, 1) := by decide +kernel
theorem d_M_findPlacing_29 : decode b_M_findPlacing 29 = .ok (.istore 5, 2) := by decide +kernel
theorem d_M_findPlacing_31 : decode b_M_findPlacing 31 = .ok (.iload 5, 2) := by decide +kernel
theorem d_M_findPlacing_33 : decode b_M_findPlacing 33 = .ok (.aload_n 0, 1) := by decide +kernel
theorem d_M_findPlacing_34 : decode b_M_findPlacing 34 = .ok (.invokevirtual 108, 3) := by decide +kernel
theorem d_M_findPlacing_37 : decode b_M_findPlacing 37 = .ok (.if_icmp .gt 138, 3) := by decide +kernel
theorem d_M_findPlacing_40 : decode b_M_findPlacing 40 = .ok (.aload_n 0, 1) := by decide +kernel
theorem d_M_findPlacing_41 : decode b_M_findPlacing 41 = .ok (.iload 5, 2) := by decide +kernel
theorem d_M_findPlacing_43 : decode b_M_findPlacing 43 = .ok (.iload_n 2, 1) := by decide +kernel
theorem d_M_findPlacing_44 : decode b_M_findPlacing 44 = .ok (.invokevirtual 134, 3) := by decide +kernel
theorem d_M_findPlacing_47 : decode b_M_findPlacing 47 = .ok (.istore 6, 2) := by decide +kernel
theorem d_M_findPlacing_49 : decode b_M_findPlacing 49 = .ok (.iload 5, 2) := by decide +kernel
theorem d_M_findPlacing_51 : decode b_M_findPlacing 51 = .ok (.iload_n 3, 1) := by decide +kernel
theorem d_M_findPlacing_52 : decode b_M_findPlacing 52 = .ok (.iconst (-1), 1) := by decide +kernel
theorem d_M_findPlacing_53 : decode b_M_findPlacing 53 = .ok (.ixor, 1) := by decide +kernel
theorem d_M_findPlacing_54 : decode b_M_findPlacing 54 = .ok (.iand, 1) := by decide +kernel
theorem d_M_findPlacing_55 : decode b_M_findPlacing 55 = .ok (.ifCond .ne 114, 3) := by decide +kernel
theorem d_M_findPlacing_58 : decode b_M_findPlacing 58 = .ok (.iload 6, 2) := by decide +kernel
theorem d_M_findPlacing_60 : decode b_M_findPlacing 60 = .ok (.iload_n 1, 1) := by decide +kernel
theorem d_M_findPlacing_61 : decode b_M_findPlacing 61 = .ok (.if_icmp .gt 108, 3) := by decide +kernel
theorem d_M_findPlacing_64 : decode b_M_findPlacing 64 = .ok (.aload_n 0, 1) := by decide +kernel
theorem d_M_findPlacing_65 : decode b_M_findPlacing 65 = .ok (.invokevirtual 108, 3) := by decide +kernel
theorem d_M_findPlacing_68 : decode b_M_findPlacing 68 = .ok (.iload_n 3, 1) := by decide +kernel
theorem d_M_findPlacing_69 : decode b_M_findPlacing 69 = .ok (.iconst (-1), 1) := by decide +kernel
theorem d_M_findPlacing_70 : decode b_M_findPlacing 70 = .ok (.ixor, 1) := by decide +kernel
theorem d_M_findPlacing_71 : decode b_M_findPlacing 71 = .ok (.iand, 1) := by decide +kernel
theorem d_M_findPlacing_72 : decode b_M_findPlacing 72 = .ok (.iload 5, 2) := by decide +kernel
theorem d_M_findPlacing_74 : decode b_M_findPlacing 74 = .ok (.ior, 1) := by decide +kernel
theorem d_M_findPlacing_75 : decode b_M_findPlacing 75 = .ok (.istore 7, 2) := by decide +kernel
theorem d_M_findPlacing_77 : decode b_M_findPlacing 77 = .ok (.aload_n 0, 1) := by decide +kernel
theorem d_M_findPlacing_78 : decode b_M_findPlacing 78 = .ok (.aload_n 0, 1) := by decide +kernel
theorem d_M_findPlacing_79 : decode b_M_findPlacing 79 = .ok (.aload_n 0, 1) := by decide +kernel
theorem d_M_findPlacing_80 : decode b_M_findPlacing 80 = .ok (.getfield 25, 3) := by decide +kernel
theorem d_M_findPlacing_83 : decode b_M_findPlacing 83 = .ok (.aload_n 0, 1) := by decide +kernel
theorem d_M_findPlacing_84 : decode b_M_findPlacing 84 = .ok (.invokevirtual 108, 3) := by decide +kernel
theorem d_M_findPlacing_87 : decode b_M_findPlacing 87 = .ok (.iload 7, 2) := by decide +kernel
theorem d_M_findPlacing_89 : decode b_M_findPlacing 89 = .ok (.iconst (-1), 1) := by decide +kernel
theorem d_M_findPlacing_90 : decode b_M_findPlacing 90 = .ok (.ixor, 1) := by decide +kernel
theorem d_M_findPlacing_91 : decode b_M_findPlacing 91 = .ok (.iand, 1) := by decide +kernel
theorem d_M_findPlacing_92 : decode b_M_findPlacing 92 = .ok (.invokevirtual 128, 3) := by decide +kernel
theorem d_M_findPlacing_95 : decode b_M_findPlacing 95 = .ok (.invokevirtual 131, 3) := by decide +kernel
theorem d_M_findPlacing_98 : decode b_M_findPlacing 98 = .ok (.istore 8, 2) := by decide +kernel
theorem d_M_findPlacing_100 : decode b_M_findPlacing 100 = .ok (.iload 8, 2) := by decide +kernel
theorem d_M_findPlacing_102 : decode b_M_findPlacing 102 = .ok (.aload_n 0, 1) := by decide +kernel
theorem d_M_findPlacing_103 : decode b_M_findPlacing 103 = .ok (.getfield 137, 3) := by decide +kernel
theorem d_M_findPlacing_106 : decode b_M_findPlacing 106 = .ok (.if_icmp .lt 35, 3) := by decide +kernel
theorem d_M_findPlacing_109 : decode b_M_findPlacing 109 = .ok (.iload 8, 2) := by decide +kernel
theorem d_M_findPlacing_111 : decode b_M_findPlacing 111 = .ok (.aload_n 0, 1) := by decide +kernel
theorem d_M_findPlacing_112 : decode b_M_findPlacing 112 = .ok (.getfield 137, 3) := by decide +kernel
theorem d_M_findPlacing_115 : decode b_M_findPlacing 115 = .ok (.if_icmp .ne 30, 3) := by decide +kernel
theorem d_M_findPlacing_118 : decode b_M_findPlacing 118 = .ok (.iload 6, 2) := by decide +kernel
theorem d_M_findPlacing_120 : decode b_M_findPlacing 120 = .ok (.iload 4, 2) := by decide +kernel
theorem d_M_findPlacing_122 : decode b_M_findPlacing 122 = .ok (.if_icmp .lt 19, 3) := by decide +kernel
theorem d_M_findPlacing_125 : decode b_M_findPlacing 125 = .ok (.iload 6, 2) := by decide +kernel
theorem d_M_findPlacing_127 : decode b_M_findPlacing 127 = .ok (.iload 4, 2) := by decide +kernel
theorem d_M_findPlacing_129 : decode b_M_findPlacing 129 = .ok (.if_icmp .ne 16, 3) := by decide +kernel
theorem d_M_findPlacing_132 : decode b_M_findPlacing 132 = .ok (.iload 7, 2) := by decide +kernel
theorem d_M_findPlacing_134 : decode b_M_findPlacing 134 = .ok (.aload_n 0, 1) := by decide +kernel
theorem d_M_findPlacing_135 : decode b_M_findPlacing 135 = .ok (.getfield 140, 3) := by decide +kernel
theorem d_M_findPlacing_138 : decode b_M_findPlacing 138 = .ok (.if_icmp .ge 7, 3) := by decide +kernel
theorem d_M_findPlacing_141 : decode b_M_findPlacing 141 = .ok (.iconst 1, 1) := by decide +kernel
theorem d_M_findPlacing_142 : decode b_M_findPlacing 142 = .ok (.goto 4, 3) := by decide +kernel
theorem d_M_findPlacing_145 : decode b_M_findPlacing 145 = .ok (.iconst 0, 1) := by decide +kernel
theorem d_M_findPlacing_146 : decode b_M_findPlacing 146 = .ok (.istore 9, 2) := by decide +kernel
theorem d_M_findPlacing_148 : decode b_M_findPlacing 148 = .ok (.iload 9, 2) := by decide +kernel
theorem d_M_findPlacing_150 : decode b_M_findPlacing 150 = .ok (.ifCond .eq 19, 3) := by decide +kernel
theorem d_M_findPlacing_153 : decode b_M_findPlacing 153 = .ok (.aload_n 0, 1) := by decide +kernel
theorem d_M_findPlacing_154 : decode b_M_findPlacing 154 = .ok (.iload 8, 2) := by decide +kernel
theorem d_M_findPlacing_156 : decode b_M_findPlacing 156 = .ok (.putfield 137, 3) := by decide +kernel
theorem d_M_findPlacing_159 : decode b_M_findPlacing 159 = .ok (.iload 6, 2) := by decide +kernel
theorem d_M_findPlacing_161 : decode b_M_findPlacing 161 = .ok (.istore 4, 2) := by decide +kernel
theorem d_M_findPlacing_163 : decode b_M_findPlacing 163 = .ok (.aload_n 0, 1) := by decide +kernel
theorem d_M_findPlacing_164 : decode b_M_findPlacing 164 = .ok (.iload 7, 2) := by decide +kernel
theorem d_M_findPlacing_166 : decode b_M_findPlacing 166 = .ok (.putfield 140, 3) := by decide +kernel
theorem d_M_findPlacing_169 : decode b_M_findPlacing 169 = .ok (.iinc 5 1, 3) := by decide +kernel
theorem d_M_findPlacing_172 : decode b_M_findPlacing 172 = .ok (.goto (-141), 3) := by decide +kernel
theorem d_M_findPlacing_175 : decode b_M_findPlacing 175 = .ok (.return_, 1) := by decide +kernel
abbrev b_M_placing : ByteArray := prog_5_method_43_code
def y_M_placing : MethodName := ⟨R_M, "placing", "(III)I"⟩
theorem mc_M_placing : Cond.code y_M_placing b_M_placing 4 (Option.some .int) ∈ lw_use := g_use (List.mem_of_getElem? (i := 695) (by decide +kernel)) rfl
theorem d_M_placing_0 : decode b_M_placing 0 = .ok (.aload_n 0, 1) := by decide +kernel
theorem d_M_placing_1 : decode b_M_placing 1 = .ok (.iconst 0, 1) := by decide +kernel
theorem d_M_placing_2 : decode b_M_placing 2 = .ok (.putfield 47, 3) := by decide +kernel
theorem d_M_placing_5 : decode b_M_placing 5 = .ok (.iload_n 1, 1) := by decide +kernel
theorem d_M_placing_6 : decode b_M_placing 6 = .ok (.i2l, 1) := by decide +kernel
theorem d_M_placing_7 : decode b_M_placing 7 = .ok (.lconst 0, 1) := by decide +kernel
theorem d_M_placing_8 : decode b_M_placing 8 = .ok (.ldc2_w 143, 3) := by decide +kernel
theorem d_M_placing_11 : decode b_M_placing 11 = .ok (.invokestatic 54, 3) := by decide +kernel
theorem d_M_placing_14 : decode b_M_placing 14 = .ok (.ifCond .eq 20, 3) := by decide +kernel
theorem d_M_placing_17 : decode b_M_placing 17 = .ok (.iload_n 2, 1) := by decide +kernel
theorem d_M_placing_18 : decode b_M_placing 18 = .ok (.invokestatic 119, 3) := by decide +kernel
theorem d_M_placing_21 : decode b_M_placing 21 = .ok (.ifCond .ne 13, 3) := by decide +kernel
theorem d_M_placing_24 : decode b_M_placing 24 = .ok (.iload_n 3, 1) := by decide +kernel
theorem d_M_placing_25 : decode b_M_placing 25 = .ok (.i2l, 1) := by decide +kernel
theorem d_M_placing_26 : decode b_M_placing 26 = .ok (.lconst 0, 1) := by decide +kernel
theorem d_M_placing_27 : decode b_M_placing 27 = .ok (.lconst 1, 1) := by decide +kernel
theorem d_M_placing_28 : decode b_M_placing 28 = .ok (.invokestatic 54, 3) := by decide +kernel
theorem d_M_placing_31 : decode b_M_placing 31 = .ok (.ifCond .ne 6, 3) := by decide +kernel
theorem d_M_placing_34 : decode b_M_placing 34 = .ok (.bipush (-2), 2) := by decide +kernel
theorem d_M_placing_36 : decode b_M_placing 36 = .ok (.ireturn, 1) := by decide +kernel
theorem d_M_placing_37 : decode b_M_placing 37 = .ok (.aload_n 0, 1) := by decide +kernel
theorem d_M_placing_38 : decode b_M_placing 38 = .ok (.iload_n 1, 1) := by decide +kernel
theorem d_M_placing_39 : decode b_M_placing 39 = .ok (.iload_n 2, 1) := by decide +kernel
theorem d_M_placing_40 : decode b_M_placing 40 = .ok (.invokevirtual 145, 3) := by decide +kernel
theorem d_M_placing_43 : decode b_M_placing 43 = .ok (.iload_n 3, 1) := by decide +kernel
theorem d_M_placing_44 : decode b_M_placing 44 = .ok (.ifCond .ne 10, 3) := by decide +kernel
theorem d_M_placing_47 : decode b_M_placing 47 = .ok (.aload_n 0, 1) := by decide +kernel
theorem d_M_placing_48 : decode b_M_placing 48 = .ok (.getfield 137, 3) := by decide +kernel
theorem d_M_placing_51 : decode b_M_placing 51 = .ok (.goto 7, 3) := by decide +kernel
theorem d_M_placing_54 : decode b_M_placing 54 = .ok (.aload_n 0, 1) := by decide +kernel
theorem d_M_placing_55 : decode b_M_placing 55 = .ok (.getfield 140, 3) := by decide +kernel
theorem d_M_placing_58 : decode b_M_placing 58 = .ok (.ireturn, 1) := by decide +kernel
abbrev b_M_all : ByteArray := prog_5_method_44_code
def y_M_all : MethodName := ⟨R_M, "all", "()I"⟩
theorem mc_M_all : Cond.code y_M_all b_M_all 5 (Option.some .int) ∈ lw_use := g_use (List.mem_of_getElem? (i := 704) (by decide +kernel)) rfl
theorem d_M_all_0 : decode b_M_all 0 = .ok (.aload_n 0, 1) := by decide +kernel
theorem d_M_all_1 : decode b_M_all 1 = .ok (.iconst 0, 1) := by decide +kernel
theorem d_M_all_2 : decode b_M_all 2 = .ok (.putfield 47, 3) := by decide +kernel
theorem d_M_all_5 : decode b_M_all 5 = .ok (.bipush (-9), 2) := by decide +kernel
theorem d_M_all_7 : decode b_M_all 7 = .ok (.istore_n 1, 1) := by decide +kernel
theorem d_M_all_8 : decode b_M_all 8 = .ok (.bipush (-9), 2) := by decide +kernel
theorem d_M_all_10 : decode b_M_all 10 = .ok (.istore_n 2, 1) := by decide +kernel
theorem d_M_all_11 : decode b_M_all 11 = .ok (.iconst 0, 1) := by decide +kernel
theorem d_M_all_12 : decode b_M_all 12 = .ok (.istore_n 3, 1) := by decide +kernel
theorem d_M_all_13 : decode b_M_all 13 = .ok (.iload_n 3, 1) := by decide +kernel
theorem d_M_all_14 : decode b_M_all 14 = .ok (.aload_n 0, 1) := by decide +kernel
theorem d_M_all_15 : decode b_M_all 15 = .ok (.getfield 51, 3) := by decide +kernel
theorem d_M_all_18 : decode b_M_all 18 = .ok (.if_icmp .ge 51, 3) := by decide +kernel
theorem d_M_all_21 : decode b_M_all 21 = .ok (.aload_n 0, 1) := by decide +kernel
theorem d_M_all_22 : decode b_M_all 22 = .ok (.aload_n 0, 1) := by decide +kernel
theorem d_M_all_23 : decode b_M_all 23 = .ok (.aload_n 0, 1) := by decide +kernel
theorem d_M_all_24 : decode b_M_all 24 = .ok (.getfield 25, 3) := by decide +kernel
theorem d_M_all_27 : decode b_M_all 27 = .ok (.iconst 1, 1) := by decide +kernel
theorem d_M_all_28 : decode b_M_all 28 = .ok (.iload_n 3, 1) := by decide +kernel
theorem d_M_all_29 : decode b_M_all 29 = .ok (.ishl, 1) := by decide +kernel
theorem d_M_all_30 : decode b_M_all 30 = .ok (.invokevirtual 128, 3) := by decide +kernel
theorem d_M_all_33 : decode b_M_all 33 = .ok (.invokevirtual 131, 3) := by decide +kernel
theorem d_M_all_36 : decode b_M_all 36 = .ok (.istore 4, 2) := by decide +kernel
theorem d_M_all_38 : decode b_M_all 38 = .ok (.iload 4, 2) := by decide +kernel
theorem d_M_all_40 : decode b_M_all 40 = .ok (.iload_n 2, 1) := by decide +kernel
theorem d_M_all_41 : decode b_M_all 41 = .ok (.if_icmp .le 7, 3) := by decide +kernel
theorem d_M_all_44 : decode b_M_all 44 = .ok (.iload_n 3, 1) := by decide +kernel
theorem d_M_all_45 : decode b_M_all 45 = .ok (.goto 4, 3) := by decide +kernel
theorem d_M_all_48 : decode b_M_all 48 = .ok (.iload_n 1, 1) := by decide +kernel
theorem d_M_all_49 : decode b_M_all 49 = .ok (.istore_n 1, 1) := by decide +kernel
theorem d_M_all_50 : decode b_M_all 50 = .ok (.iload 4, 2) := by decide +kernel
theorem d_M_all_52 : decode b_M_all 52 = .ok (.iload_n 2, 1) := by decide +kernel
theorem d_M_all_53 : decode b_M_all 53 = .ok (.if_icmp .le 8, 3) := by decide +kernel
theorem d_M_all_56 : decode b_M_all 56 = .ok (.iload 4, 2) := by decide +kernel
theorem d_M_all_58 : decode b_M_all 58 = .ok (.goto 4, 3) := by decide +kernel
theorem d_M_all_61 : decode b_M_all 61 = .ok (.iload_n 2, 1) := by decide +kernel
theorem d_M_all_62 : decode b_M_all 62 = .ok (.istore_n 2, 1) := by decide +kernel
theorem d_M_all_63 : decode b_M_all 63 = .ok (.iinc 3 1, 3) := by decide +kernel
theorem d_M_all_66 : decode b_M_all 66 = .ok (.goto (-53), 3) := by decide +kernel
theorem d_M_all_69 : decode b_M_all 69 = .ok (.iload_n 1, 1) := by decide +kernel
theorem d_M_all_70 : decode b_M_all 70 = .ok (.ireturn, 1) := by decide +kernel
abbrev b_M_hundred : ByteArray := prog_5_method_45_code
def y_M_hundred : MethodName := ⟨R_M, "hundred", "(I)J"⟩
theorem mc_M_hundred : Cond.code y_M_hundred b_M_hundred 4 (Option.some .long) ∈ lw_use := g_use (List.mem_of_getElem? (i := 715) (by decide +kernel)) rfl
theorem d_M_hundred_0 : decode b_M_hundred 0 = .ok (.lconst 1, 1) := by decide +kernel
theorem d_M_hundred_1 : decode b_M_hundred 1 = .ok (.lstore_n 1, 1) := by decide +kernel
theorem d_M_hundred_2 : decode b_M_hundred 2 = .ok (.iconst 0, 1) := by decide +kernel
theorem d_M_hundred_3 : decode b_M_hundred 3 = .ok (.istore_n 3, 1) := by decide +kernel
theorem d_M_hundred_4 : decode b_M_hundred 4 = .ok (.iload_n 3, 1) := by decide +kernel
theorem d_M_hundred_5 : decode b_M_hundred 5 = .ok (.iload_n 0, 1) := by decide +kernel
theorem d_M_hundred_6 : decode b_M_hundred 6 = .ok (.if_icmp .ge 15, 3) := by decide +kernel
theorem d_M_hundred_9 : decode b_M_hundred 9 = .ok (.lload_n 1, 1) := by decide +kernel
theorem d_M_hundred_10 : decode b_M_hundred 10 = .ok (.ldc2_w 149, 3) := by decide +kernel
theorem d_M_hundred_13 : decode b_M_hundred 13 = .ok (.lmul, 1) := by decide +kernel
theorem d_M_hundred_14 : decode b_M_hundred 14 = .ok (.lstore_n 1, 1) := by decide +kernel
theorem d_M_hundred_15 : decode b_M_hundred 15 = .ok (.iinc 3 1, 3) := by decide +kernel
theorem d_M_hundred_18 : decode b_M_hundred 18 = .ok (.goto (-14), 3) := by decide +kernel
theorem d_M_hundred_21 : decode b_M_hundred 21 = .ok (.lload_n 1, 1) := by decide +kernel
theorem d_M_hundred_22 : decode b_M_hundred 22 = .ok (.lreturn, 1) := by decide +kernel
abbrev b_M_stormOf : ByteArray := prog_5_method_46_code
def y_M_stormOf : MethodName := ⟨R_M, "stormOf", "(IJI)I"⟩
theorem mc_M_stormOf : Cond.code y_M_stormOf b_M_stormOf 4 (Option.some .int) ∈ lw_use := g_use (List.mem_of_getElem? (i := 719) (by decide +kernel)) rfl
theorem d_M_stormOf_0 : decode b_M_stormOf 0 = .ok (.lload_n 1, 1) := by decide +kernel
theorem d_M_stormOf_1 : decode b_M_stormOf 1 = .ok (.iload_n 0, 1) := by decide +kernel
theorem d_M_stormOf_2 : decode b_M_stormOf 2 = .ok (.iconst 1, 1) := by decide +kernel
theorem d_M_stormOf_3 : decode b_M_stormOf 3 = .ok (.isub, 1) := by decide +kernel
theorem d_M_stormOf_4 : decode b_M_stormOf 4 = .ok (.iload_n 3, 1) := by decide +kernel
theorem d_M_stormOf_5 : decode b_M_stormOf 5 = .ok (.isub, 1) := by decide +kernel
theorem d_M_stormOf_6 : decode b_M_stormOf 6 = .ok (.invokestatic 151, 3) := by decide +kernel
theorem d_M_stormOf_9 : decode b_M_stormOf 9 = .ok (.ldiv, 1) := by decide +kernel
theorem d_M_stormOf_10 : decode b_M_stormOf 10 = .ok (.ldc2_w 149, 3) := by decide +kernel
theorem d_M_stormOf_13 : decode b_M_stormOf 13 = .ok (.lrem, 1) := by decide +kernel
theorem d_M_stormOf_14 : decode b_M_stormOf 14 = .ok (.l2i, 1) := by decide +kernel
theorem d_M_stormOf_15 : decode b_M_stormOf 15 = .ok (.ireturn, 1) := by decide +kernel
abbrev b_M_noStorms : ByteArray := prog_5_method_47_code
def y_M_noStorms : MethodName := ⟨R_M, "noStorms", "(IJ)Z"⟩
theorem mc_M_noStorms : Cond.code y_M_noStorms b_M_noStorms 5 (Option.some .boolean) ∈ lw_use := g_use (List.mem_of_getElem? (i := 711) (by decide +kernel)) rfl
theorem d_M_noStorms_0 : decode b_M_noStorms 0 = .ok (.iload_n 0, 1) := by decide +kernel
theorem d_M_noStorms_1 : decode b_M_noStorms 1 = .ok (.i2l, 1) := by decide +kernel
theorem d_M_noStorms_2 : decode b_M_noStorms 2 = .ok (.lconst 1, 1) := by decide +kernel
theorem d_M_noStorms_3 : decode b_M_noStorms 3 = .ok (.ldc2_w 155, 3) := by decide +kernel
theorem d_M_noStorms_6 : decode b_M_noStorms 6 = .ok (.invokestatic 54, 3) := by decide +kernel
theorem d_M_noStorms_9 : decode b_M_noStorms 9 = .ok (.ifCond .eq 17, 3) := by decide +kernel
theorem d_M_noStorms_12 : decode b_M_noStorms 12 = .ok (.lload_n 1, 1) := by decide +kernel
theorem d_M_noStorms_13 : decode b_M_noStorms 13 = .ok (.lconst 0, 1) := by decide +kernel
theorem d_M_noStorms_14 : decode b_M_noStorms 14 = .ok (.iload_n 0, 1) := by decide +kernel
theorem d_M_noStorms_15 : decode b_M_noStorms 15 = .ok (.invokestatic 151, 3) := by decide +kernel
theorem d_M_noStorms_18 : decode b_M_noStorms 18 = .ok (.lconst 1, 1) := by decide +kernel
theorem d_M_noStorms_19 : decode b_M_noStorms 19 = .ok (.lsub, 1) := by decide +kernel
theorem d_M_noStorms_20 : decode b_M_noStorms 20 = .ok (.invokestatic 54, 3) := by decide +kernel
theorem d_M_noStorms_23 : decode b_M_noStorms 23 = .ok (.ifCond .ne 5, 3) := by decide +kernel
theorem d_M_noStorms_26 : decode b_M_noStorms 26 = .ok (.iconst 1, 1) := by decide +kernel
theorem d_M_noStorms_27 : decode b_M_noStorms 27 = .ok (.ireturn, 1) := by decide +kernel
theorem d_M_noStorms_28 : decode b_M_noStorms 28 = .ok (.iconst 1, 1) := by decide +kernel
theorem d_M_noStorms_29 : decode b_M_noStorms 29 = .ok (.istore_n 3, 1) := by decide +kernel
theorem d_M_noStorms_30 : decode b_M_noStorms 30 = .ok (.iconst 0, 1) := by decide +kernel
theorem d_M_noStorms_31 : decode b_M_noStorms 31 = .ok (.istore 4, 2) := by decide +kernel
theorem d_M_noStorms_33 : decode b_M_noStorms 33 = .ok (.iload 4, 2) := by decide +kernel
theorem d_M_noStorms_35 : decode b_M_noStorms 35 = .ok (.iload_n 0, 1) := by decide +kernel
theorem d_M_noStorms_36 : decode b_M_noStorms 36 = .ok (.if_icmp .ge 31, 3) := by decide +kernel
theorem d_M_noStorms_39 : decode b_M_noStorms 39 = .ok (.iload_n 3, 1) := by decide +kernel
theorem d_M_noStorms_40 : decode b_M_noStorms 40 = .ok (.ifCond .eq 19, 3) := by decide +kernel
theorem d_M_noStorms_43 : decode b_M_noStorms 43 = .ok (.iload_n 0, 1) := by decide +kernel
theorem d_M_noStorms_44 : decode b_M_noStorms 44 = .ok (.lload_n 1, 1) := by decide +kernel
theorem d_M_noStorms_45 : decode b_M_noStorms 45 = .ok (.iload 4, 2) := by decide +kernel
theorem d_M_noStorms_47 : decode b_M_noStorms 47 = .ok (.invokestatic 157, 3) := by decide +kernel
theorem d_M_noStorms_50 : decode b_M_noStorms 50 = .ok (.bipush 20, 2) := by decide +kernel
theorem d_M_noStorms_52 : decode b_M_noStorms 52 = .ok (.if_icmp .gt 7, 3) := by decide +kernel
theorem d_M_noStorms_55 : decode b_M_noStorms 55 = .ok (.iconst 1, 1) := by decide +kernel
theorem d_M_noStorms_56 : decode b_M_noStorms 56 = .ok (.goto 4, 3) := by decide +kernel
theorem d_M_noStorms_59 : decode b_M_noStorms 59 = .ok (.iconst 0, 1) := by decide +kernel
theorem d_M_noStorms_60 : decode b_M_noStorms 60 = .ok (.istore_n 3, 1) := by decide +kernel
theorem d_M_noStorms_61 : decode b_M_noStorms 61 = .ok (.iinc 4 1, 3) := by decide +kernel
theorem d_M_noStorms_64 : decode b_M_noStorms 64 = .ok (.goto (-31), 3) := by decide +kernel
theorem d_M_noStorms_67 : decode b_M_noStorms 67 = .ok (.iload_n 3, 1) := by decide +kernel
theorem d_M_noStorms_68 : decode b_M_noStorms 68 = .ok (.ifCond .ne 7, 3) := by decide +kernel
theorem d_M_noStorms_71 : decode b_M_noStorms 71 = .ok (.iconst 1, 1) := by decide +kernel
theorem d_M_noStorms_72 : decode b_M_noStorms 72 = .ok (.goto 4, 3) := by decide +kernel
theorem d_M_noStorms_75 : decode b_M_noStorms 75 = .ok (.iconst 0, 1) := by decide +kernel
theorem d_M_noStorms_76 : decode b_M_noStorms 76 = .ok (.ireturn, 1) := by decide +kernel
abbrev b_M_told : ByteArray := prog_5_method_48_code
def y_M_told : MethodName := ⟨R_M, "told", "(IIJI)I"⟩
theorem mc_M_told : Cond.code y_M_told b_M_told 10 (Option.some .int) ∈ lw_use := g_use (List.mem_of_getElem? (i := 708) (by decide +kernel)) rfl
theorem d_M_told_0 : decode b_M_told 0 = .ok (.aload_n 0, 1) := by decide +kernel
theorem d_M_told_1 : decode b_M_told 1 = .ok (.iconst 0, 1) := by decide +kernel
theorem d_M_told_2 : decode b_M_told 2 = .ok (.putfield 47, 3) := by decide +kernel
theorem d_M_told_5 : decode b_M_told 5 = .ok (.aload_n 0, 1) := by decide +kernel
theorem d_M_told_6 : decode b_M_told 6 = .ok (.iload_n 1, 1) := by decide +kernel
theorem d_M_told_7 : decode b_M_told 7 = .ok (.invokevirtual 115, 3) := by decide +kernel
theorem d_M_told_10 : decode b_M_told 10 = .ok (.ifCond .eq 5, 3) := by decide +kernel
theorem d_M_told_13 : decode b_M_told 13 = .ok (.iconst (-1), 1) := by decide +kernel
theorem d_M_told_14 : decode b_M_told 14 = .ok (.ireturn, 1) := by decide +kernel
theorem d_M_told_15 : decode b_M_told 15 = .ok (.iload_n 2, 1) := by decide +kernel
theorem d_M_told_16 : decode b_M_told 16 = .ok (.lload_n 3, 1) := by decide +kernel
theorem d_M_told_17 : decode b_M_told 17 = .ok (.invokestatic 161, 3) := by decide +kernel
theorem d_M_told_20 : decode b_M_told 20 = .ok (.ifCond .ne 16, 3) := by decide +kernel
theorem d_M_told_23 : decode b_M_told 23 = .ok (.iload 5, 2) := by decide +kernel
theorem d_M_told_25 : decode b_M_told 25 = .ok (.i2l, 1) := by decide +kernel
theorem d_M_told_26 : decode b_M_told 26 = .ok (.lconst 0, 1) := by decide +kernel
theorem d_M_told_27 : decode b_M_told 27 = .ok (.ldc2_w 165, 3) := by decide +kernel
theorem d_M_told_30 : decode b_M_told 30 = .ok (.invokestatic 54, 3) := by decide +kernel
theorem d_M_told_33 : decode b_M_told 33 = .ok (.ifCond .ne 6, 3) := by decide +kernel
theorem d_M_told_36 : decode b_M_told 36 = .ok (.bipush (-2), 2) := by decide +kernel
theorem d_M_told_38 : decode b_M_told 38 = .ok (.ireturn, 1) := by decide +kernel
theorem d_M_told_39 : decode b_M_told 39 = .ok (.bipush (-9), 2) := by decide +kernel
theorem d_M_told_41 : decode b_M_told 41 = .ok (.istore 6, 2) := by decide +kernel
theorem d_M_told_43 : decode b_M_told 43 = .ok (.bipush (-9), 2) := by decide +kernel
theorem d_M_told_45 : decode b_M_told 45 = .ok (.istore 7, 2) := by decide +kernel
theorem d_M_told_47 : decode b_M_told 47 = .ok (.aload_n 0, 1) := by decide +kernel
theorem d_M_told_48 : decode b_M_told 48 = .ok (.invokevirtual 167, 3) := by decide +kernel
theorem d_M_told_51 : decode b_M_told 51 = .ok (.iconst 0, 1) := by decide +kernel
theorem d_M_told_52 : decode b_M_told 52 = .ok (.istore 8, 2) := by decide +kernel
theorem d_M_told_54 : decode b_M_told 54 = .ok (.iload 8, 2) := by decide +kernel
theorem d_M_told_56 : decode b_M_told 56 = .ok (.iload_n 2, 1) := by decide +kernel
theorem d_M_told_57 : decode b_M_told 57 = .ok (.if_icmp .ge 72, 3) := by decide +kernel
theorem d_M_told_60 : decode b_M_told 60 = .ok (.aload_n 0, 1) := by decide +kernel
theorem d_M_told_61 : decode b_M_told 61 = .ok (.aload_n 0, 1) := by decide +kernel
theorem d_M_told_62 : decode b_M_told 62 = .ok (.getfield 28, 3) := by decide +kernel
theorem d_M_told_65 : decode b_M_told 65 = .ok (.iload_n 2, 1) := by decide +kernel
theorem d_M_told_66 : decode b_M_told 66 = .ok (.lload_n 3, 1) := by decide +kernel
theorem d_M_told_67 : decode b_M_told 67 = .ok (.iload 8, 2) := by decide +kernel
theorem d_M_told_69 : decode b_M_told 69 = .ok (.invokestatic 157, 3) := by decide +kernel
theorem d_M_told_72 : decode b_M_told 72 = .ok (.invokevirtual 125, 3) := by decide +kernel
theorem d_M_told_75 : decode b_M_told 75 = .ok (.istore 9, 2) := by decide +kernel
theorem d_M_told_77 : decode b_M_told 77 = .ok (.iload 6, 2) := by decide +kernel
theorem d_M_told_79 : decode b_M_told 79 = .ok (.bipush (-9), 2) := by decide +kernel
theorem d_M_told_81 : decode b_M_told 81 = .ok (.if_icmp .ne 13, 3) := by decide +kernel
theorem d_M_told_84 : decode b_M_told 84 = .ok (.iload 9, 2) := by decide +kernel
theorem d_M_told_86 : decode b_M_told 86 = .ok (.ifCond .eq 8, 3) := by decide +kernel
theorem d_M_told_89 : decode b_M_told 89 = .ok (.iload 8, 2) := by decide +kernel
theorem d_M_told_91 : decode b_M_told 91 = .ok (.goto 5, 3) := by decide +kernel
theorem d_M_told_94 : decode b_M_told 94 = .ok (.iload 6, 2) := by decide +kernel
theorem d_M_told_96 : decode b_M_told 96 = .ok (.istore 6, 2) := by decide +kernel
theorem d_M_told_98 : decode b_M_told 98 = .ok (.iload 7, 2) := by decide +kernel
theorem d_M_told_100 : decode b_M_told 100 = .ok (.bipush (-9), 2) := by decide +kernel
theorem d_M_told_102 : decode b_M_told 102 = .ok (.if_icmp .ne 17, 3) := by decide +kernel
theorem d_M_told_105 : decode b_M_told 105 = .ok (.iload 9, 2) := by decide +kernel
theorem d_M_told_107 : decode b_M_told 107 = .ok (.iload_n 1, 1) := by decide +kernel
theorem d_M_told_108 : decode b_M_told 108 = .ok (.invokestatic 78, 3) := by decide +kernel
theorem d_M_told_111 : decode b_M_told 111 = .ok (.ifCond .eq 8, 3) := by decide +kernel
theorem d_M_told_114 : decode b_M_told 114 = .ok (.iload 8, 2) := by decide +kernel
theorem d_M_told_116 : decode b_M_told 116 = .ok (.goto 5, 3) := by decide +kernel
theorem d_M_told_119 : decode b_M_told 119 = .ok (.iload 7, 2) := by decide +kernel
theorem d_M_told_121 : decode b_M_told 121 = .ok (.istore 7, 2) := by decide +kernel
theorem d_M_told_123 : decode b_M_told 123 = .ok (.iinc 8 1, 3) := by decide +kernel
theorem d_M_told_126 : decode b_M_told 126 = .ok (.goto (-72), 3) := by decide +kernel
theorem d_M_told_129 : decode b_M_told 129 = .ok (.iload 5, 2) := by decide +kernel
theorem d_M_told_131 : decode b_M_told 131 = .ok (.ifCond .ne 8, 3) := by decide +kernel
theorem d_M_told_134 : decode b_M_told 134 = .ok (.iload 6, 2) := by decide +kernel
theorem d_M_told_136 : decode b_M_told 136 = .ok (.goto 22, 3) := by decide +kernel
theorem d_M_told_139 : decode b_M_told 139 = .ok (.iload 5, 2) := by decide +kernel
theorem d_M_told_141 : decode b_M_told 141 = .ok (.iconst 1, 1) := by decide +kernel
theorem d_M_told_142 : decode b_M_told 142 = .ok (.if_icmp .ne 8, 3) := by decide +kernel
theorem d_M_told_145 : decode b_M_told 145 = .ok (.iload 7, 2) := by decide +kernel
theorem d_M_told_147 : decode b_M_told 147 = .ok (.goto 11, 3) := by decide +kernel
theorem d_M_told_150 : decode b_M_told 150 = .ok (.aload_n 0, 1) := by decide +kernel
theorem d_M_told_151 : decode b_M_told 151 = .ok (.getfield 28, 3) := by decide +kernel
theorem d_M_told_154 : decode b_M_told 154 = .ok (.iconst 0, 1) := by decide +kernel
theorem d_M_told_155 : decode b_M_told 155 = .ok (.iload_n 1, 1) := by decide +kernel
theorem d_M_told_156 : decode b_M_told 156 = .ok (.iadd, 1) := by decide +kernel
theorem d_M_told_157 : decode b_M_told 157 = .ok (.iaload, 1) := by decide +kernel
theorem d_M_told_158 : decode b_M_told 158 = .ok (.ireturn, 1) := by decide +kernel
abbrev b_M_wet : ByteArray := prog_5_method_49_code
def y_M_wet : MethodName := ⟨R_M, "wet", "(II)I"⟩
theorem mc_M_wet : Cond.code y_M_wet b_M_wet 7 (Option.some .int) ∈ lw_use := g_use (List.mem_of_getElem? (i := 728) (by decide +kernel)) rfl
theorem d_M_wet_0 : decode b_M_wet 0 = .ok (.aload_n 0, 1) := by decide +kernel
theorem d_M_wet_1 : decode b_M_wet 1 = .ok (.iconst 0, 1) := by decide +kernel
theorem d_M_wet_2 : decode b_M_wet 2 = .ok (.putfield 47, 3) := by decide +kernel
theorem d_M_wet_5 : decode b_M_wet 5 = .ok (.iload_n 1, 1) := by decide +kernel
theorem d_M_wet_6 : decode b_M_wet 6 = .ok (.i2l, 1) := by decide +kernel
theorem d_M_wet_7 : decode b_M_wet 7 = .ok (.lconst 0, 1) := by decide +kernel
theorem d_M_wet_8 : decode b_M_wet 8 = .ok (.aload_n 0, 1) := by decide +kernel
theorem d_M_wet_9 : decode b_M_wet 9 = .ok (.invokevirtual 108, 3) := by decide +kernel
theorem d_M_wet_12 : decode b_M_wet 12 = .ok (.i2l, 1) := by decide +kernel
theorem d_M_wet_13 : decode b_M_wet 13 = .ok (.invokestatic 54, 3) := by decide +kernel
theorem d_M_wet_16 : decode b_M_wet 16 = .ok (.ifCond .eq 15, 3) := by decide +kernel
theorem d_M_wet_19 : decode b_M_wet 19 = .ok (.iload_n 2, 1) := by decide +kernel
theorem d_M_wet_20 : decode b_M_wet 20 = .ok (.i2l, 1) := by decide +kernel
theorem d_M_wet_21 : decode b_M_wet 21 = .ok (.lconst 0, 1) := by decide +kernel
theorem d_M_wet_22 : decode b_M_wet 22 = .ok (.ldc2_w 165, 3) := by decide +kernel
theorem d_M_wet_25 : decode b_M_wet 25 = .ok (.invokestatic 54, 3) := by decide +kernel
theorem d_M_wet_28 : decode b_M_wet 28 = .ok (.ifCond .ne 6, 3) := by decide +kernel
theorem d_M_wet_31 : decode b_M_wet 31 = .ok (.bipush (-2), 2) := by decide +kernel
theorem d_M_wet_33 : decode b_M_wet 33 = .ok (.ireturn, 1) := by decide +kernel
theorem d_M_wet_34 : decode b_M_wet 34 = .ok (.iconst 0, 1) := by decide +kernel
theorem d_M_wet_35 : decode b_M_wet 35 = .ok (.istore_n 3, 1) := by decide +kernel
theorem d_M_wet_36 : decode b_M_wet 36 = .ok (.aload_n 0, 1) := by decide +kernel
theorem d_M_wet_37 : decode b_M_wet 37 = .ok (.invokevirtual 108, 3) := by decide +kernel
theorem d_M_wet_40 : decode b_M_wet 40 = .ok (.istore 4, 2) := by decide +kernel
theorem d_M_wet_42 : decode b_M_wet 42 = .ok (.iconst 0, 1) := by decide +kernel
theorem d_M_wet_43 : decode b_M_wet 43 = .ok (.istore 5, 2) := by decide +kernel
theorem d_M_wet_45 : decode b_M_wet 45 = .ok (.iconst 0, 1) := by decide +kernel
theorem d_M_wet_46 : decode b_M_wet 46 = .ok (.istore 6, 2) := by decide +kernel
theorem d_M_wet_48 : decode b_M_wet 48 = .ok (.iload 6, 2) := by decide +kernel
theorem d_M_wet_50 : decode b_M_wet 50 = .ok (.aload_n 0, 1) := by decide +kernel
theorem d_M_wet_51 : decode b_M_wet 51 = .ok (.invokevirtual 108, 3) := by decide +kernel
theorem d_M_wet_54 : decode b_M_wet 54 = .ok (.if_icmp .gt 40, 3) := by decide +kernel
theorem d_M_wet_57 : decode b_M_wet 57 = .ok (.aload_n 0, 1) := by decide +kernel
theorem d_M_wet_58 : decode b_M_wet 58 = .ok (.aload_n 0, 1) := by decide +kernel
theorem d_M_wet_59 : decode b_M_wet 59 = .ok (.getfield 25, 3) := by decide +kernel
theorem d_M_wet_62 : decode b_M_wet 62 = .ok (.iload 6, 2) := by decide +kernel
theorem d_M_wet_64 : decode b_M_wet 64 = .ok (.invokevirtual 128, 3) := by decide +kernel
theorem d_M_wet_67 : decode b_M_wet 67 = .ok (.iload_n 1, 1) := by decide +kernel
theorem d_M_wet_68 : decode b_M_wet 68 = .ok (.if_icmp .ne 20, 3) := by decide +kernel
theorem d_M_wet_71 : decode b_M_wet 71 = .ok (.iinc 3 1, 3) := by decide +kernel
theorem d_M_wet_74 : decode b_M_wet 74 = .ok (.iload 4, 2) := by decide +kernel
theorem d_M_wet_76 : decode b_M_wet 76 = .ok (.iload 6, 2) := by decide +kernel
theorem d_M_wet_78 : decode b_M_wet 78 = .ok (.iand, 1) := by decide +kernel
theorem d_M_wet_79 : decode b_M_wet 79 = .ok (.istore 4, 2) := by decide +kernel
theorem d_M_wet_81 : decode b_M_wet 81 = .ok (.iload 5, 2) := by decide +kernel
theorem d_M_wet_83 : decode b_M_wet 83 = .ok (.iload 6, 2) := by decide +kernel
theorem d_M_wet_85 : decode b_M_wet 85 = .ok (.ior, 1) := by decide +kernel
theorem d_M_wet_86 : decode b_M_wet 86 = .ok (.istore 5, 2) := by decide +kernel
theorem d_M_wet_88 : decode b_M_wet 88 = .ok (.iinc 6 1, 3) := by decide +kernel
theorem d_M_wet_91 : decode b_M_wet 91 = .ok (.goto (-43), 3) := by decide +kernel
theorem d_M_wet_94 : decode b_M_wet 94 = .ok (.iload_n 2, 1) := by decide +kernel
theorem d_M_wet_95 : decode b_M_wet 95 = .ok (.ifCond .ne 7, 3) := by decide +kernel
theorem d_M_wet_98 : decode b_M_wet 98 = .ok (.iload_n 3, 1) := by decide +kernel
theorem d_M_wet_99 : decode b_M_wet 99 = .ok (.goto 31, 3) := by decide +kernel
theorem d_M_wet_102 : decode b_M_wet 102 = .ok (.iload_n 3, 1) := by decide +kernel
theorem d_M_wet_103 : decode b_M_wet 103 = .ok (.ifCond .ne 8, 3) := by decide +kernel
theorem d_M_wet_106 : decode b_M_wet 106 = .ok (.bipush (-9), 2) := by decide +kernel
theorem d_M_wet_108 : decode b_M_wet 108 = .ok (.goto 22, 3) := by decide +kernel
theorem d_M_wet_111 : decode b_M_wet 111 = .ok (.iload_n 2, 1) := by decide +kernel
theorem d_M_wet_112 : decode b_M_wet 112 = .ok (.iconst 1, 1) := by decide +kernel
theorem d_M_wet_113 : decode b_M_wet 113 = .ok (.if_icmp .ne 8, 3) := by decide +kernel
theorem d_M_wet_116 : decode b_M_wet 116 = .ok (.iload 4, 2) := by decide +kernel
theorem d_M_wet_118 : decode b_M_wet 118 = .ok (.goto 12, 3) := by decide +kernel
theorem d_M_wet_121 : decode b_M_wet 121 = .ok (.aload_n 0, 1) := by decide +kernel
theorem d_M_wet_122 : decode b_M_wet 122 = .ok (.invokevirtual 108, 3) := by decide +kernel
theorem d_M_wet_125 : decode b_M_wet 125 = .ok (.iload 5, 2) := by decide +kernel
theorem d_M_wet_127 : decode b_M_wet 127 = .ok (.iconst (-1), 1) := by decide +kernel
theorem d_M_wet_128 : decode b_M_wet 128 = .ok (.ixor, 1) := by decide +kernel
theorem d_M_wet_129 : decode b_M_wet 129 = .ok (.iand, 1) := by decide +kernel
theorem d_M_wet_130 : decode b_M_wet 130 = .ok (.ireturn, 1) := by decide +kernel
abbrev b_M_netOf : ByteArray := prog_5_method_50_code
def y_M_netOf : MethodName := ⟨R_M, "netOf", "(I)I"⟩
theorem mc_M_netOf : Cond.code y_M_netOf b_M_netOf 4 (Option.some .int) ∈ lw_use := g_use (List.mem_of_getElem? (i := 736) (by decide +kernel)) rfl
theorem d_M_netOf_0 : decode b_M_netOf 0 = .ok (.iconst 0, 1) := by decide +kernel
theorem d_M_netOf_1 : decode b_M_netOf 1 = .ok (.istore_n 2, 1) := by decide +kernel
theorem d_M_netOf_2 : decode b_M_netOf 2 = .ok (.iconst 0, 1) := by decide +kernel
theorem d_M_netOf_3 : decode b_M_netOf 3 = .ok (.istore_n 3, 1) := by decide +kernel
theorem d_M_netOf_4 : decode b_M_netOf 4 = .ok (.iload_n 3, 1) := by decide +kernel
theorem d_M_netOf_5 : decode b_M_netOf 5 = .ok (.aload_n 0, 1) := by decide +kernel
theorem d_M_netOf_6 : decode b_M_netOf 6 = .ok (.getfield 51, 3) := by decide +kernel
theorem d_M_netOf_9 : decode b_M_netOf 9 = .ok (.if_icmp .ge 41, 3) := by decide +kernel
theorem d_M_netOf_12 : decode b_M_netOf 12 = .ok (.iload_n 2, 1) := by decide +kernel
theorem d_M_netOf_13 : decode b_M_netOf 13 = .ok (.aload_n 0, 1) := by decide +kernel
theorem d_M_netOf_14 : decode b_M_netOf 14 = .ok (.getfield 25, 3) := by decide +kernel
theorem d_M_netOf_17 : decode b_M_netOf 17 = .ok (.bipush 21, 2) := by decide +kernel
theorem d_M_netOf_19 : decode b_M_netOf 19 = .ok (.bipush 6, 2) := by decide +kernel
theorem d_M_netOf_21 : decode b_M_netOf 21 = .ok (.iload_n 3, 1) := by decide +kernel
theorem d_M_netOf_22 : decode b_M_netOf 22 = .ok (.imul, 1) := by decide +kernel
theorem d_M_netOf_23 : decode b_M_netOf 23 = .ok (.iadd, 1) := by decide +kernel
theorem d_M_netOf_24 : decode b_M_netOf 24 = .ok (.iload_n 1, 1) := by decide +kernel
theorem d_M_netOf_25 : decode b_M_netOf 25 = .ok (.iadd, 1) := by decide +kernel
theorem d_M_netOf_26 : decode b_M_netOf 26 = .ok (.iaload, 1) := by decide +kernel
theorem d_M_netOf_27 : decode b_M_netOf 27 = .ok (.aload_n 0, 1) := by decide +kernel
theorem d_M_netOf_28 : decode b_M_netOf 28 = .ok (.getfield 25, 3) := by decide +kernel
theorem d_M_netOf_31 : decode b_M_netOf 31 = .ok (.bipush 21, 2) := by decide +kernel
theorem d_M_netOf_33 : decode b_M_netOf 33 = .ok (.bipush 6, 2) := by decide +kernel
theorem d_M_netOf_35 : decode b_M_netOf 35 = .ok (.iload_n 1, 1) := by decide +kernel
theorem d_M_netOf_36 : decode b_M_netOf 36 = .ok (.imul, 1) := by decide +kernel
theorem d_M_netOf_37 : decode b_M_netOf 37 = .ok (.iadd, 1) := by decide +kernel
theorem d_M_netOf_38 : decode b_M_netOf 38 = .ok (.iload_n 3, 1) := by decide +kernel
theorem d_M_netOf_39 : decode b_M_netOf 39 = .ok (.iadd, 1) := by decide +kernel
theorem d_M_netOf_40 : decode b_M_netOf 40 = .ok (.iaload, 1) := by decide +kernel
theorem d_M_netOf_41 : decode b_M_netOf 41 = .ok (.isub, 1) := by decide +kernel
theorem d_M_netOf_42 : decode b_M_netOf 42 = .ok (.iadd, 1) := by decide +kernel
theorem d_M_netOf_43 : decode b_M_netOf 43 = .ok (.istore_n 2, 1) := by decide +kernel
theorem d_M_netOf_44 : decode b_M_netOf 44 = .ok (.iinc 3 1, 3) := by decide +kernel
theorem d_M_netOf_47 : decode b_M_netOf 47 = .ok (.goto (-43), 3) := by decide +kernel
theorem d_M_netOf_50 : decode b_M_netOf 50 = .ok (.iload_n 2, 1) := by decide +kernel
theorem d_M_netOf_51 : decode b_M_netOf 51 = .ok (.ireturn, 1) := by decide +kernel
abbrev b_M_net : ByteArray := prog_5_method_51_code
def y_M_net : MethodName := ⟨R_M, "net", "(I)I"⟩
theorem mc_M_net : Cond.code y_M_net b_M_net 2 (Option.some .int) ∈ lw_use := g_use (List.mem_of_getElem? (i := 732) (by decide +kernel)) rfl
theorem d_M_net_0 : decode b_M_net 0 = .ok (.aload_n 0, 1) := by decide +kernel
theorem d_M_net_1 : decode b_M_net 1 = .ok (.iconst 0, 1) := by decide +kernel
theorem d_M_net_2 : decode b_M_net 2 = .ok (.putfield 47, 3) := by decide +kernel
theorem d_M_net_5 : decode b_M_net 5 = .ok (.aload_n 0, 1) := by decide +kernel
theorem d_M_net_6 : decode b_M_net 6 = .ok (.iload_n 1, 1) := by decide +kernel
theorem d_M_net_7 : decode b_M_net 7 = .ok (.invokevirtual 115, 3) := by decide +kernel
theorem d_M_net_10 : decode b_M_net 10 = .ok (.ifCond .eq 7, 3) := by decide +kernel
theorem d_M_net_13 : decode b_M_net 13 = .ok (.iconst (-1), 1) := by decide +kernel
theorem d_M_net_14 : decode b_M_net 14 = .ok (.goto 11, 3) := by decide +kernel
theorem d_M_net_17 : decode b_M_net 17 = .ok (.bipush 100, 2) := by decide +kernel
theorem d_M_net_19 : decode b_M_net 19 = .ok (.aload_n 0, 1) := by decide +kernel
theorem d_M_net_20 : decode b_M_net 20 = .ok (.iload_n 1, 1) := by decide +kernel
theorem d_M_net_21 : decode b_M_net 21 = .ok (.invokevirtual 170, 3) := by decide +kernel
theorem d_M_net_24 : decode b_M_net 24 = .ok (.iadd, 1) := by decide +kernel
theorem d_M_net_25 : decode b_M_net 25 = .ok (.ireturn, 1) := by decide +kernel
abbrev b_M_payings : ByteArray := prog_5_method_52_code
def y_M_payings : MethodName := ⟨R_M, "payings", "()I"⟩
theorem mc_M_payings : Cond.code y_M_payings b_M_payings 7 (Option.some .int) ∈ lw_use := g_use (List.mem_of_getElem? (i := 740) (by decide +kernel)) rfl
theorem d_M_payings_0 : decode b_M_payings 0 = .ok (.aload_n 0, 1) := by decide +kernel
theorem d_M_payings_1 : decode b_M_payings 1 = .ok (.iconst 0, 1) := by decide +kernel
theorem d_M_payings_2 : decode b_M_payings 2 = .ok (.putfield 47, 3) := by decide +kernel
theorem d_M_payings_5 : decode b_M_payings 5 = .ok (.iconst 0, 1) := by decide +kernel
theorem d_M_payings_6 : decode b_M_payings 6 = .ok (.istore_n 1, 1) := by decide +kernel
theorem d_M_payings_7 : decode b_M_payings 7 = .ok (.iconst 0, 1) := by decide +kernel
theorem d_M_payings_8 : decode b_M_payings 8 = .ok (.istore_n 2, 1) := by decide +kernel
theorem d_M_payings_9 : decode b_M_payings 9 = .ok (.iload_n 2, 1) := by decide +kernel
theorem d_M_payings_10 : decode b_M_payings 10 = .ok (.aload_n 0, 1) := by decide +kernel
theorem d_M_payings_11 : decode b_M_payings 11 = .ok (.getfield 51, 3) := by decide +kernel
theorem d_M_payings_14 : decode b_M_payings 14 = .ok (.if_icmp .ge 27, 3) := by decide +kernel
theorem d_M_payings_17 : decode b_M_payings 17 = .ok (.iload_n 1, 1) := by decide +kernel
theorem d_M_payings_18 : decode b_M_payings 18 = .ok (.aload_n 0, 1) := by decide +kernel
theorem d_M_payings_19 : decode b_M_payings 19 = .ok (.iload_n 2, 1) := by decide +kernel
theorem d_M_payings_20 : decode b_M_payings 20 = .ok (.invokevirtual 170, 3) := by decide +kernel
theorem d_M_payings_23 : decode b_M_payings 23 = .ok (.ifCond .eq 9, 3) := by decide +kernel
theorem d_M_payings_26 : decode b_M_payings 26 = .ok (.iconst 1, 1) := by decide +kernel
theorem d_M_payings_27 : decode b_M_payings 27 = .ok (.iload_n 2, 1) := by decide +kernel
theorem d_M_payings_28 : decode b_M_payings 28 = .ok (.ishl, 1) := by decide +kernel
theorem d_M_payings_29 : decode b_M_payings 29 = .ok (.goto 4, 3) := by decide +kernel
theorem d_M_payings_32 : decode b_M_payings 32 = .ok (.iconst 0, 1) := by decide +kernel
theorem d_M_payings_33 : decode b_M_payings 33 = .ok (.ior, 1) := by decide +kernel
theorem d_M_payings_34 : decode b_M_payings 34 = .ok (.istore_n 1, 1) := by decide +kernel
theorem d_M_payings_35 : decode b_M_payings 35 = .ok (.iinc 2 1, 3) := by decide +kernel
theorem d_M_payings_38 : decode b_M_payings 38 = .ok (.goto (-29), 3) := by decide +kernel
theorem d_M_payings_41 : decode b_M_payings 41 = .ok (.iconst 0, 1) := by decide +kernel
theorem d_M_payings_42 : decode b_M_payings 42 = .ok (.istore_n 2, 1) := by decide +kernel
theorem d_M_payings_43 : decode b_M_payings 43 = .ok (.iload_n 2, 1) := by decide +kernel
theorem d_M_payings_44 : decode b_M_payings 44 = .ok (.iload_n 1, 1) := by decide +kernel
theorem d_M_payings_45 : decode b_M_payings 45 = .ok (.if_icmp .gt 148, 3) := by decide +kernel
theorem d_M_payings_48 : decode b_M_payings 48 = .ok (.aload_n 0, 1) := by decide +kernel
theorem d_M_payings_49 : decode b_M_payings 49 = .ok (.getfield 44, 3) := by decide +kernel
theorem d_M_payings_52 : decode b_M_payings 52 = .ok (.iload_n 2, 1) := by decide +kernel
theorem d_M_payings_53 : decode b_M_payings 53 = .ok (.iload_n 2, 1) := by decide +kernel
theorem d_M_payings_54 : decode b_M_payings 54 = .ok (.ifCond .ne 7, 3) := by decide +kernel
theorem d_M_payings_57 : decode b_M_payings 57 = .ok (.iconst 0, 1) := by decide +kernel
theorem d_M_payings_58 : decode b_M_payings 58 = .ok (.goto 5, 3) := by decide +kernel
theorem d_M_payings_61 : decode b_M_payings 61 = .ok (.bipush (-9), 2) := by decide +kernel
theorem d_M_payings_63 : decode b_M_payings 63 = .ok (.iastore, 1) := by decide +kernel
theorem d_M_payings_64 : decode b_M_payings 64 = .ok (.aload_n 0, 1) := by decide +kernel
theorem d_M_payings_65 : decode b_M_payings 65 = .ok (.iload_n 2, 1) := by decide +kernel
theorem d_M_payings_66 : decode b_M_payings 66 = .ok (.invokevirtual 173, 3) := by decide +kernel
theorem d_M_payings_69 : decode b_M_payings 69 = .ok (.istore_n 3, 1) := by decide +kernel
theorem d_M_payings_70 : decode b_M_payings 70 = .ok (.iconst 1, 1) := by decide +kernel
theorem d_M_payings_71 : decode b_M_payings 71 = .ok (.istore 4, 2) := by decide +kernel
theorem d_M_payings_73 : decode b_M_payings 73 = .ok (.iload 4, 2) := by decide +kernel
theorem d_M_payings_75 : decode b_M_payings 75 = .ok (.iload_n 2, 1) := by decide +kernel
theorem d_M_payings_76 : decode b_M_payings 76 = .ok (.if_icmp .gt 111, 3) := by decide +kernel
theorem d_M_payings_79 : decode b_M_payings 79 = .ok (.iload_n 3, 1) := by decide +kernel
theorem d_M_payings_80 : decode b_M_payings 80 = .ok (.ifCond .ne 107, 3) := by decide +kernel
theorem d_M_payings_83 : decode b_M_payings 83 = .ok (.iload_n 2, 1) := by decide +kernel
theorem d_M_payings_84 : decode b_M_payings 84 = .ok (.iload 4, 2) := by decide +kernel
theorem d_M_payings_86 : decode b_M_payings 86 = .ok (.iconst (-1), 1) := by decide +kernel
theorem d_M_payings_87 : decode b_M_payings 87 = .ok (.ixor, 1) := by decide +kernel
theorem d_M_payings_88 : decode b_M_payings 88 = .ok (.iand, 1) := by decide +kernel
theorem d_M_payings_89 : decode b_M_payings 89 = .ok (.istore 5, 2) := by decide +kernel
theorem d_M_payings_91 : decode b_M_payings 91 = .ok (.iload 4, 2) := by decide +kernel
theorem d_M_payings_93 : decode b_M_payings 93 = .ok (.iload_n 2, 1) := by decide +kernel
theorem d_M_payings_94 : decode b_M_payings 94 = .ok (.iconst (-1), 1) := by decide +kernel
theorem d_M_payings_95 : decode b_M_payings 95 = .ok (.ixor, 1) := by decide +kernel
theorem d_M_payings_96 : decode b_M_payings 96 = .ok (.iand, 1) := by decide +kernel
theorem d_M_payings_97 : decode b_M_payings 97 = .ok (.ifCond .ne 34, 3) := by decide +kernel
theorem d_M_payings_100 : decode b_M_payings 100 = .ok (.iload 5, 2) := by decide +kernel
theorem d_M_payings_102 : decode b_M_payings 102 = .ok (.iload_n 2, 1) := by decide +kernel
theorem d_M_payings_103 : decode b_M_payings 103 = .ok (.if_icmp .eq 28, 3) := by decide +kernel
theorem d_M_payings_106 : decode b_M_payings 106 = .ok (.aload_n 0, 1) := by decide +kernel
theorem d_M_payings_107 : decode b_M_payings 107 = .ok (.getfield 44, 3) := by decide +kernel
theorem d_M_payings_110 : decode b_M_payings 110 = .ok (.iload 5, 2) := by decide +kernel
theorem d_M_payings_112 : decode b_M_payings 112 = .ok (.iaload, 1) := by decide +kernel
theorem d_M_payings_113 : decode b_M_payings 113 = .ok (.bipush (-9), 2) := by decide +kernel
theorem d_M_payings_115 : decode b_M_payings 115 = .ok (.if_icmp .eq 16, 3) := by decide +kernel
theorem d_M_payings_118 : decode b_M_payings 118 = .ok (.aload_n 0, 1) := by decide +kernel
theorem d_M_payings_119 : decode b_M_payings 119 = .ok (.iload 4, 2) := by decide +kernel
theorem d_M_payings_121 : decode b_M_payings 121 = .ok (.invokevirtual 173, 3) := by decide +kernel
theorem d_M_payings_124 : decode b_M_payings 124 = .ok (.ifCond .ne 7, 3) := by decide +kernel
theorem d_M_payings_127 : decode b_M_payings 127 = .ok (.iconst 1, 1) := by decide +kernel
theorem d_M_payings_128 : decode b_M_payings 128 = .ok (.goto 4, 3) := by decide +kernel
theorem d_M_payings_131 : decode b_M_payings 131 = .ok (.iconst 0, 1) := by decide +kernel
theorem d_M_payings_132 : decode b_M_payings 132 = .ok (.istore 6, 2) := by decide +kernel
theorem d_M_payings_134 : decode b_M_payings 134 = .ok (.aload_n 0, 1) := by decide +kernel
theorem d_M_payings_135 : decode b_M_payings 135 = .ok (.getfield 44, 3) := by decide +kernel
theorem d_M_payings_138 : decode b_M_payings 138 = .ok (.iload_n 2, 1) := by decide +kernel
theorem d_M_payings_139 : decode b_M_payings 139 = .ok (.iload 6, 2) := by decide +kernel
theorem d_M_payings_141 : decode b_M_payings 141 = .ok (.ifCond .eq 33, 3) := by decide +kernel
theorem d_M_payings_144 : decode b_M_payings 144 = .ok (.aload_n 0, 1) := by decide +kernel
theorem d_M_payings_145 : decode b_M_payings 145 = .ok (.getfield 44, 3) := by decide +kernel
theorem d_M_payings_148 : decode b_M_payings 148 = .ok (.iload 5, 2) := by decide +kernel
theorem d_M_payings_150 : decode b_M_payings 150 = .ok (.iaload, 1) := by decide +kernel
theorem d_M_payings_151 : decode b_M_payings 151 = .ok (.iconst 1, 1) := by decide +kernel
theorem d_M_payings_152 : decode b_M_payings 152 = .ok (.iadd, 1) := by decide +kernel
theorem d_M_payings_153 : decode b_M_payings 153 = .ok (.aload_n 0, 1) := by decide +kernel
theorem d_M_payings_154 : decode b_M_payings 154 = .ok (.getfield 44, 3) := by decide +kernel
theorem d_M_payings_157 : decode b_M_payings 157 = .ok (.iload_n 2, 1) := by decide +kernel
theorem d_M_payings_158 : decode b_M_payings 158 = .ok (.iaload, 1) := by decide +kernel
theorem d_M_payings_159 : decode b_M_payings 159 = .ok (.if_icmp .le 15, 3) := by decide +kernel
theorem d_M_payings_162 : decode b_M_payings 162 = .ok (.aload_n 0, 1) := by decide +kernel
theorem d_M_payings_163 : decode b_M_payings 163 = .ok (.getfield 44, 3) := by decide +kernel
theorem d_M_payings_166 : decode b_M_payings 166 = .ok (.iload 5, 2) := by decide +kernel
theorem d_M_payings_168 : decode b_M_payings 168 = .ok (.iaload, 1) := by decide +kernel
theorem d_M_payings_169 : decode b_M_payings 169 = .ok (.iconst 1, 1) := by decide +kernel
theorem d_M_payings_170 : decode b_M_payings 170 = .ok (.iadd, 1) := by decide +kernel
theorem d_M_payings_171 : decode b_M_payings 171 = .ok (.goto 9, 3) := by decide +kernel
theorem d_M_payings_174 : decode b_M_payings 174 = .ok (.aload_n 0, 1) := by decide +kernel
theorem d_M_payings_175 : decode b_M_payings 175 = .ok (.getfield 44, 3) := by decide +kernel
theorem d_M_payings_178 : decode b_M_payings 178 = .ok (.iload_n 2, 1) := by decide +kernel
theorem d_M_payings_179 : decode b_M_payings 179 = .ok (.iaload, 1) := by decide +kernel
theorem d_M_payings_180 : decode b_M_payings 180 = .ok (.iastore, 1) := by decide +kernel
theorem d_M_payings_181 : decode b_M_payings 181 = .ok (.iinc 4 1, 3) := by decide +kernel
theorem d_M_payings_184 : decode b_M_payings 184 = .ok (.goto (-111), 3) := by decide +kernel
theorem d_M_payings_187 : decode b_M_payings 187 = .ok (.iinc 2 1, 3) := by decide +kernel
theorem d_M_payings_190 : decode b_M_payings 190 = .ok (.goto (-147), 3) := by decide +kernel
theorem d_M_payings_193 : decode b_M_payings 193 = .ok (.iload_n 1, 1) := by decide +kernel
theorem d_M_payings_194 : decode b_M_payings 194 = .ok (.invokestatic 176, 3) := by decide +kernel
theorem d_M_payings_197 : decode b_M_payings 197 = .ok (.aload_n 0, 1) := by decide +kernel
theorem d_M_payings_198 : decode b_M_payings 198 = .ok (.getfield 44, 3) := by decide +kernel
theorem d_M_payings_201 : decode b_M_payings 201 = .ok (.iload_n 1, 1) := by decide +kernel
theorem d_M_payings_202 : decode b_M_payings 202 = .ok (.iaload, 1) := by decide +kernel
theorem d_M_payings_203 : decode b_M_payings 203 = .ok (.isub, 1) := by decide +kernel
theorem d_M_payings_204 : decode b_M_payings 204 = .ok (.ireturn, 1) := by decide +kernel
abbrev b_M_sumOf : ByteArray := prog_5_method_53_code
def y_M_sumOf : MethodName := ⟨R_M, "sumOf", "(I)I"⟩
theorem mc_M_sumOf : Cond.code y_M_sumOf b_M_sumOf 4 (Option.some .int) ∈ lw_use := g_use (List.mem_of_getElem? (i := 744) (by decide +kernel)) rfl
theorem d_M_sumOf_0 : decode b_M_sumOf 0 = .ok (.iconst 0, 1) := by decide +kernel
theorem d_M_sumOf_1 : decode b_M_sumOf 1 = .ok (.istore_n 2, 1) := by decide +kernel
theorem d_M_sumOf_2 : decode b_M_sumOf 2 = .ok (.iconst 0, 1) := by decide +kernel
theorem d_M_sumOf_3 : decode b_M_sumOf 3 = .ok (.istore_n 3, 1) := by decide +kernel
theorem d_M_sumOf_4 : decode b_M_sumOf 4 = .ok (.iload_n 3, 1) := by decide +kernel
theorem d_M_sumOf_5 : decode b_M_sumOf 5 = .ok (.aload_n 0, 1) := by decide +kernel
theorem d_M_sumOf_6 : decode b_M_sumOf 6 = .ok (.getfield 51, 3) := by decide +kernel
theorem d_M_sumOf_9 : decode b_M_sumOf 9 = .ok (.if_icmp .ge 29, 3) := by decide +kernel
theorem d_M_sumOf_12 : decode b_M_sumOf 12 = .ok (.iload_n 2, 1) := by decide +kernel
theorem d_M_sumOf_13 : decode b_M_sumOf 13 = .ok (.iload_n 1, 1) := by decide +kernel
theorem d_M_sumOf_14 : decode b_M_sumOf 14 = .ok (.iload_n 3, 1) := by decide +kernel
theorem d_M_sumOf_15 : decode b_M_sumOf 15 = .ok (.invokestatic 78, 3) := by decide +kernel
theorem d_M_sumOf_18 : decode b_M_sumOf 18 = .ok (.ifCond .eq 11, 3) := by decide +kernel
theorem d_M_sumOf_21 : decode b_M_sumOf 21 = .ok (.aload_n 0, 1) := by decide +kernel
theorem d_M_sumOf_22 : decode b_M_sumOf 22 = .ok (.iload_n 3, 1) := by decide +kernel
theorem d_M_sumOf_23 : decode b_M_sumOf 23 = .ok (.invokevirtual 170, 3) := by decide +kernel
theorem d_M_sumOf_26 : decode b_M_sumOf 26 = .ok (.goto 4, 3) := by decide +kernel
theorem d_M_sumOf_29 : decode b_M_sumOf 29 = .ok (.iconst 0, 1) := by decide +kernel
theorem d_M_sumOf_30 : decode b_M_sumOf 30 = .ok (.iadd, 1) := by decide +kernel
theorem d_M_sumOf_31 : decode b_M_sumOf 31 = .ok (.istore_n 2, 1) := by decide +kernel
theorem d_M_sumOf_32 : decode b_M_sumOf 32 = .ok (.iinc 3 1, 3) := by decide +kernel
theorem d_M_sumOf_35 : decode b_M_sumOf 35 = .ok (.goto (-31), 3) := by decide +kernel
theorem d_M_sumOf_38 : decode b_M_sumOf 38 = .ok (.iload_n 2, 1) := by decide +kernel
theorem d_M_sumOf_39 : decode b_M_sumOf 39 = .ok (.ireturn, 1) := by decide +kernel
abbrev b_M_orders : ByteArray := prog_5_method_54_code
def y_M_orders : MethodName := ⟨R_M, "orders", "(I)I"⟩
theorem mc_M_orders : Cond.code y_M_orders b_M_orders 3 (Option.some .int) ∈ lw_use := g_use (List.mem_of_getElem? (i := 754) (by decide +kernel)) rfl
theorem d_M_orders_0 : decode b_M_orders 0 = .ok (.iconst 1, 1) := by decide +kernel
theorem d_M_orders_1 : decode b_M_orders 1 = .ok (.istore_n 1, 1) := by decide +kernel
theorem d_M_orders_2 : decode b_M_orders 2 = .ok (.iconst 2, 1) := by decide +kernel
theorem d_M_orders_3 : decode b_M_orders 3 = .ok (.istore_n 2, 1) := by decide +kernel
theorem d_M_orders_4 : decode b_M_orders 4 = .ok (.iload_n 2, 1) := by decide +kernel
theorem d_M_orders_5 : decode b_M_orders 5 = .ok (.iload_n 0, 1) := by decide +kernel
theorem d_M_orders_6 : decode b_M_orders 6 = .ok (.if_icmp .gt 13, 3) := by decide +kernel
theorem d_M_orders_9 : decode b_M_orders 9 = .ok (.iload_n 1, 1) := by decide +kernel
theorem d_M_orders_10 : decode b_M_orders 10 = .ok (.iload_n 2, 1) := by decide +kernel
theorem d_M_orders_11 : decode b_M_orders 11 = .ok (.imul, 1) := by decide +kernel
theorem d_M_orders_12 : decode b_M_orders 12 = .ok (.istore_n 1, 1) := by decide +kernel
theorem d_M_orders_13 : decode b_M_orders 13 = .ok (.iinc 2 1, 3) := by decide +kernel
theorem d_M_orders_16 : decode b_M_orders 16 = .ok (.goto (-12), 3) := by decide +kernel
theorem d_M_orders_19 : decode b_M_orders 19 = .ok (.iload_n 1, 1) := by decide +kernel
theorem d_M_orders_20 : decode b_M_orders 20 = .ok (.ireturn, 1) := by decide +kernel
abbrev b_M_divisor : ByteArray := prog_5_method_55_code
def y_M_divisor : MethodName := ⟨R_M, "divisor", "(II)I"⟩
theorem mc_M_divisor : Cond.code y_M_divisor b_M_divisor 5 (Option.some .int) ∈ lw_use := g_use (List.mem_of_getElem? (i := 760) (by decide +kernel)) rfl
theorem d_M_divisor_0 : decode b_M_divisor 0 = .ok (.iload_n 0, 1) := by decide +kernel
theorem d_M_divisor_1 : decode b_M_divisor 1 = .ok (.ifCond .ge 8, 3) := by decide +kernel
theorem d_M_divisor_4 : decode b_M_divisor 4 = .ok (.iload_n 0, 1) := by decide +kernel
theorem d_M_divisor_5 : decode b_M_divisor 5 = .ok (.ineg, 1) := by decide +kernel
theorem d_M_divisor_6 : decode b_M_divisor 6 = .ok (.goto 4, 3) := by decide +kernel
theorem d_M_divisor_9 : decode b_M_divisor 9 = .ok (.iload_n 0, 1) := by decide +kernel
theorem d_M_divisor_10 : decode b_M_divisor 10 = .ok (.istore_n 2, 1) := by decide +kernel
theorem d_M_divisor_11 : decode b_M_divisor 11 = .ok (.iload_n 1, 1) := by decide +kernel
theorem d_M_divisor_12 : decode b_M_divisor 12 = .ok (.istore_n 3, 1) := by decide +kernel
theorem d_M_divisor_13 : decode b_M_divisor 13 = .ok (.iload_n 3, 1) := by decide +kernel
theorem d_M_divisor_14 : decode b_M_divisor 14 = .ok (.ifCond .eq 16, 3) := by decide +kernel
theorem d_M_divisor_17 : decode b_M_divisor 17 = .ok (.iload_n 2, 1) := by decide +kernel
theorem d_M_divisor_18 : decode b_M_divisor 18 = .ok (.iload_n 3, 1) := by decide +kernel
theorem d_M_divisor_19 : decode b_M_divisor 19 = .ok (.irem, 1) := by decide +kernel
theorem d_M_divisor_20 : decode b_M_divisor 20 = .ok (.istore 4, 2) := by decide +kernel
theorem d_M_divisor_22 : decode b_M_divisor 22 = .ok (.iload_n 3, 1) := by decide +kernel
theorem d_M_divisor_23 : decode b_M_divisor 23 = .ok (.istore_n 2, 1) := by decide +kernel
theorem d_M_divisor_24 : decode b_M_divisor 24 = .ok (.iload 4, 2) := by decide +kernel
theorem d_M_divisor_26 : decode b_M_divisor 26 = .ok (.istore_n 3, 1) := by decide +kernel
theorem d_M_divisor_27 : decode b_M_divisor 27 = .ok (.goto (-14), 3) := by decide +kernel
theorem d_M_divisor_30 : decode b_M_divisor 30 = .ok (.iload_n 2, 1) := by decide +kernel
theorem d_M_divisor_31 : decode b_M_divisor 31 = .ok (.ireturn, 1) := by decide +kernel
abbrev b_M_fraction : ByteArray := prog_5_method_56_code
def y_M_fraction : MethodName := ⟨R_M, "fraction", "(IIZ)I"⟩
theorem mc_M_fraction : Cond.code y_M_fraction b_M_fraction 4 (Option.some .int) ∈ lw_use := g_use (List.mem_of_getElem? (i := 757) (by decide +kernel)) rfl
theorem d_M_fraction_0 : decode b_M_fraction 0 = .ok (.iload_n 0, 1) := by decide +kernel
theorem d_M_fraction_1 : decode b_M_fraction 1 = .ok (.iload_n 1, 1) := by decide +kernel
theorem d_M_fraction_2 : decode b_M_fraction 2 = .ok (.invokestatic 179, 3) := by decide +kernel
theorem d_M_fraction_5 : decode b_M_fraction 5 = .ok (.istore_n 3, 1) := by decide +kernel
theorem d_M_fraction_6 : decode b_M_fraction 6 = .ok (.iload_n 2, 1) := by decide +kernel
theorem d_M_fraction_7 : decode b_M_fraction 7 = .ok (.ifCond .eq 9, 3) := by decide +kernel
theorem d_M_fraction_10 : decode b_M_fraction 10 = .ok (.iload_n 0, 1) := by decide +kernel
theorem d_M_fraction_11 : decode b_M_fraction 11 = .ok (.iload_n 3, 1) := by decide +kernel
theorem d_M_fraction_12 : decode b_M_fraction 12 = .ok (.idiv, 1) := by decide +kernel
theorem d_M_fraction_13 : decode b_M_fraction 13 = .ok (.goto 6, 3) := by decide +kernel
theorem d_M_fraction_16 : decode b_M_fraction 16 = .ok (.iload_n 1, 1) := by decide +kernel
theorem d_M_fraction_17 : decode b_M_fraction 17 = .ok (.iload_n 3, 1) := by decide +kernel
theorem d_M_fraction_18 : decode b_M_fraction 18 = .ok (.idiv, 1) := by decide +kernel
theorem d_M_fraction_19 : decode b_M_fraction 19 = .ok (.ireturn, 1) := by decide +kernel
abbrev b_M_share : ByteArray := prog_5_method_57_code
def y_M_share : MethodName := ⟨R_M, "share", "(IIZ)I"⟩
theorem mc_M_share : Cond.code y_M_share b_M_share 7 (Option.some .int) ∈ lw_use := g_use (List.mem_of_getElem? (i := 751) (by decide +kernel)) rfl
theorem d_M_share_0 : decode b_M_share 0 = .ok (.aload_n 0, 1) := by decide +kernel
theorem d_M_share_1 : decode b_M_share 1 = .ok (.iconst 0, 1) := by decide +kernel
theorem d_M_share_2 : decode b_M_share 2 = .ok (.putfield 47, 3) := by decide +kernel
theorem d_M_share_5 : decode b_M_share 5 = .ok (.aload_n 0, 1) := by decide +kernel
theorem d_M_share_6 : decode b_M_share 6 = .ok (.iload_n 1, 1) := by decide +kernel
theorem d_M_share_7 : decode b_M_share 7 = .ok (.invokevirtual 115, 3) := by decide +kernel
theorem d_M_share_10 : decode b_M_share 10 = .ok (.ifCond .eq 5, 3) := by decide +kernel
theorem d_M_share_13 : decode b_M_share 13 = .ok (.iconst (-1), 1) := by decide +kernel
theorem d_M_share_14 : decode b_M_share 14 = .ok (.ireturn, 1) := by decide +kernel
theorem d_M_share_15 : decode b_M_share 15 = .ok (.iload_n 2, 1) := by decide +kernel
theorem d_M_share_16 : decode b_M_share 16 = .ok (.invokestatic 119, 3) := by decide +kernel
theorem d_M_share_19 : decode b_M_share 19 = .ok (.ifCond .eq 6, 3) := by decide +kernel
theorem d_M_share_22 : decode b_M_share 22 = .ok (.bipush (-2), 2) := by decide +kernel
theorem d_M_share_24 : decode b_M_share 24 = .ok (.ireturn, 1) := by decide +kernel
theorem d_M_share_25 : decode b_M_share 25 = .ok (.iconst 0, 1) := by decide +kernel
theorem d_M_share_26 : decode b_M_share 26 = .ok (.istore 4, 2) := by decide +kernel
theorem d_M_share_28 : decode b_M_share 28 = .ok (.iload 4, 2) := by decide +kernel
theorem d_M_share_30 : decode b_M_share 30 = .ok (.aload_n 0, 1) := by decide +kernel
theorem d_M_share_31 : decode b_M_share 31 = .ok (.invokevirtual 108, 3) := by decide +kernel
theorem d_M_share_34 : decode b_M_share 34 = .ok (.if_icmp .gt 31, 3) := by decide +kernel
theorem d_M_share_37 : decode b_M_share 37 = .ok (.aload_n 0, 1) := by decide +kernel
theorem d_M_share_38 : decode b_M_share 38 = .ok (.aload_n 0, 1) := by decide +kernel
theorem d_M_share_39 : decode b_M_share 39 = .ok (.iload 4, 2) := by decide +kernel
theorem d_M_share_41 : decode b_M_share 41 = .ok (.invokevirtual 111, 3) := by decide +kernel
theorem d_M_share_44 : decode b_M_share 44 = .ok (.iload_n 2, 1) := by decide +kernel
theorem d_M_share_45 : decode b_M_share 45 = .ok (.invokevirtual 145, 3) := by decide +kernel
theorem d_M_share_48 : decode b_M_share 48 = .ok (.aload_n 0, 1) := by decide +kernel
theorem d_M_share_49 : decode b_M_share 49 = .ok (.getfield 41, 3) := by decide +kernel
theorem d_M_share_52 : decode b_M_share 52 = .ok (.iload 4, 2) := by decide +kernel
theorem d_M_share_54 : decode b_M_share 54 = .ok (.aload_n 0, 1) := by decide +kernel
theorem d_M_share_55 : decode b_M_share 55 = .ok (.getfield 137, 3) := by decide +kernel
theorem d_M_share_58 : decode b_M_share 58 = .ok (.iastore, 1) := by decide +kernel
theorem d_M_share_59 : decode b_M_share 59 = .ok (.iinc 4 1, 3) := by decide +kernel
theorem d_M_share_62 : decode b_M_share 62 = .ok (.goto (-34), 3) := by decide +kernel
theorem d_M_share_65 : decode b_M_share 65 = .ok (.iconst 0, 1) := by decide +kernel
theorem d_M_share_66 : decode b_M_share 66 = .ok (.istore 4, 2) := by decide +kernel
theorem d_M_share_68 : decode b_M_share 68 = .ok (.iconst 0, 1) := by decide +kernel
theorem d_M_share_69 : decode b_M_share 69 = .ok (.istore 5, 2) := by decide +kernel
theorem d_M_share_71 : decode b_M_share 71 = .ok (.iload 5, 2) := by decide +kernel
theorem d_M_share_73 : decode b_M_share 73 = .ok (.aload_n 0, 1) := by decide +kernel
theorem d_M_share_74 : decode b_M_share 74 = .ok (.invokevirtual 108, 3) := by decide +kernel
theorem d_M_share_77 : decode b_M_share 77 = .ok (.if_icmp .gt 68, 3) := by decide +kernel
theorem d_M_share_80 : decode b_M_share 80 = .ok (.iload 5, 2) := by decide +kernel
theorem d_M_share_82 : decode b_M_share 82 = .ok (.iload_n 1, 1) := by decide +kernel
theorem d_M_share_83 : decode b_M_share 83 = .ok (.invokestatic 78, 3) := by decide +kernel
theorem d_M_share_86 : decode b_M_share 86 = .ok (.ifCond .ne 53, 3) := by decide +kernel
theorem d_M_share_89 : decode b_M_share 89 = .ok (.iload 5, 2) := by decide +kernel
theorem d_M_share_91 : decode b_M_share 91 = .ok (.invokestatic 176, 3) := by decide +kernel
theorem d_M_share_94 : decode b_M_share 94 = .ok (.istore 6, 2) := by decide +kernel
theorem d_M_share_96 : decode b_M_share 96 = .ok (.iload 4, 2) := by decide +kernel
theorem d_M_share_98 : decode b_M_share 98 = .ok (.iload 6, 2) := by decide +kernel
theorem d_M_share_100 : decode b_M_share 100 = .ok (.invokestatic 182, 3) := by decide +kernel
theorem d_M_share_103 : decode b_M_share 103 = .ok (.aload_n 0, 1) := by decide +kernel
theorem d_M_share_104 : decode b_M_share 104 = .ok (.getfield 51, 3) := by decide +kernel
theorem d_M_share_107 : decode b_M_share 107 = .ok (.iconst 1, 1) := by decide +kernel
theorem d_M_share_108 : decode b_M_share 108 = .ok (.isub, 1) := by decide +kernel
theorem d_M_share_109 : decode b_M_share 109 = .ok (.iload 6, 2) := by decide +kernel
theorem d_M_share_111 : decode b_M_share 111 = .ok (.isub, 1) := by decide +kernel
theorem d_M_share_112 : decode b_M_share 112 = .ok (.invokestatic 182, 3) := by decide +kernel
theorem d_M_share_115 : decode b_M_share 115 = .ok (.imul, 1) := by decide +kernel
theorem d_M_share_116 : decode b_M_share 116 = .ok (.aload_n 0, 1) := by decide +kernel
theorem d_M_share_117 : decode b_M_share 117 = .ok (.getfield 41, 3) := by decide +kernel
theorem d_M_share_120 : decode b_M_share 120 = .ok (.iload 5, 2) := by decide +kernel
theorem d_M_share_122 : decode b_M_share 122 = .ok (.iaload, 1) := by decide +kernel
theorem d_M_share_123 : decode b_M_share 123 = .ok (.aload_n 0, 1) := by decide +kernel
theorem d_M_share_124 : decode b_M_share 124 = .ok (.getfield 41, 3) := by decide +kernel
theorem d_M_share_127 : decode b_M_share 127 = .ok (.iload 5, 2) := by decide +kernel
theorem d_M_share_129 : decode b_M_share 129 = .ok (.iconst 1, 1) := by decide +kernel
theorem d_M_share_130 : decode b_M_share 130 = .ok (.iload_n 1, 1) := by decide +kernel
theorem d_M_share_131 : decode b_M_share 131 = .ok (.ishl, 1) := by decide +kernel
theorem d_M_share_132 : decode b_M_share 132 = .ok (.ior, 1) := by decide +kernel
theorem d_M_share_133 : decode b_M_share 133 = .ok (.iaload, 1) := by decide +kernel
theorem d_M_share_134 : decode b_M_share 134 = .ok (.isub, 1) := by decide +kernel
theorem d_M_share_135 : decode b_M_share 135 = .ok (.imul, 1) := by decide +kernel
theorem d_M_share_136 : decode b_M_share 136 = .ok (.iadd, 1) := by decide +kernel
theorem d_M_share_137 : decode b_M_share 137 = .ok (.istore 4, 2) := by decide +kernel
theorem d_M_share_139 : decode b_M_share 139 = .ok (.iinc 5 1, 3) := by decide +kernel
theorem d_M_share_142 : decode b_M_share 142 = .ok (.goto (-71), 3) := by decide +kernel
theorem d_M_share_145 : decode b_M_share 145 = .ok (.iload 4, 2) := by decide +kernel
theorem d_M_share_147 : decode b_M_share 147 = .ok (.aload_n 0, 1) := by decide +kernel
theorem d_M_share_148 : decode b_M_share 148 = .ok (.getfield 51, 3) := by decide +kernel
theorem d_M_share_151 : decode b_M_share 151 = .ok (.invokestatic 182, 3) := by decide +kernel
theorem d_M_share_154 : decode b_M_share 154 = .ok (.iload_n 3, 1) := by decide +kernel
theorem d_M_share_155 : decode b_M_share 155 = .ok (.invokestatic 185, 3) := by decide +kernel
theorem d_M_share_158 : decode b_M_share 158 = .ok (.ireturn, 1) := by decide +kernel
abbrev b_M_gainOf : ByteArray := prog_5_method_58_code
def y_M_gainOf : MethodName := ⟨R_M, "gainOf", "(IIIII)I"⟩
theorem mc_M_gainOf : Cond.code y_M_gainOf b_M_gainOf 7 (Option.some .int) ∈ lw_use := g_use (List.mem_of_getElem? (i := 772) (by decide +kernel)) rfl
theorem d_M_gainOf_0 : decode b_M_gainOf 0 = .ok (.aload_n 0, 1) := by decide +kernel
theorem d_M_gainOf_1 : decode b_M_gainOf 1 = .ok (.invokevirtual 167, 3) := by decide +kernel
theorem d_M_gainOf_4 : decode b_M_gainOf 4 = .ok (.aload_n 0, 1) := by decide +kernel
theorem d_M_gainOf_5 : decode b_M_gainOf 5 = .ok (.getfield 28, 3) := by decide +kernel
theorem d_M_gainOf_8 : decode b_M_gainOf 8 = .ok (.iconst 0, 1) := by decide +kernel
theorem d_M_gainOf_9 : decode b_M_gainOf 9 = .ok (.iload 4, 2) := by decide +kernel
theorem d_M_gainOf_11 : decode b_M_gainOf 11 = .ok (.iadd, 1) := by decide +kernel
theorem d_M_gainOf_12 : decode b_M_gainOf 12 = .ok (.dup2, 1) := by decide +kernel
theorem d_M_gainOf_13 : decode b_M_gainOf 13 = .ok (.iaload, 1) := by decide +kernel
theorem d_M_gainOf_14 : decode b_M_gainOf 14 = .ok (.iload_n 2, 1) := by decide +kernel
theorem d_M_gainOf_15 : decode b_M_gainOf 15 = .ok (.iload_n 3, 1) := by decide +kernel
theorem d_M_gainOf_16 : decode b_M_gainOf 16 = .ok (.iadd, 1) := by decide +kernel
theorem d_M_gainOf_17 : decode b_M_gainOf 17 = .ok (.iadd, 1) := by decide +kernel
theorem d_M_gainOf_18 : decode b_M_gainOf 18 = .ok (.iastore, 1) := by decide +kernel
theorem d_M_gainOf_19 : decode b_M_gainOf 19 = .ok (.aload_n 0, 1) := by decide +kernel
theorem d_M_gainOf_20 : decode b_M_gainOf 20 = .ok (.aload_n 0, 1) := by decide +kernel
theorem d_M_gainOf_21 : decode b_M_gainOf 21 = .ok (.getfield 28, 3) := by decide +kernel
theorem d_M_gainOf_24 : decode b_M_gainOf 24 = .ok (.aload_n 0, 1) := by decide +kernel
theorem d_M_gainOf_25 : decode b_M_gainOf 25 = .ok (.aload_n 0, 1) := by decide +kernel
theorem d_M_gainOf_26 : decode b_M_gainOf 26 = .ok (.getfield 28, 3) := by decide +kernel
theorem d_M_gainOf_29 : decode b_M_gainOf 29 = .ok (.iload 5, 2) := by decide +kernel
theorem d_M_gainOf_31 : decode b_M_gainOf 31 = .ok (.invokevirtual 105, 3) := by decide +kernel
theorem d_M_gainOf_34 : decode b_M_gainOf 34 = .ok (.invokevirtual 128, 3) := by decide +kernel
theorem d_M_gainOf_37 : decode b_M_gainOf 37 = .ok (.istore 6, 2) := by decide +kernel
theorem d_M_gainOf_39 : decode b_M_gainOf 39 = .ok (.iload 6, 2) := by decide +kernel
theorem d_M_gainOf_41 : decode b_M_gainOf 41 = .ok (.iload_n 1, 1) := by decide +kernel
theorem d_M_gainOf_42 : decode b_M_gainOf 42 = .ok (.invokestatic 78, 3) := by decide +kernel
theorem d_M_gainOf_45 : decode b_M_gainOf 45 = .ok (.ifCond .eq 7, 3) := by decide +kernel
theorem d_M_gainOf_48 : decode b_M_gainOf 48 = .ok (.iconst 0, 1) := by decide +kernel
theorem d_M_gainOf_49 : decode b_M_gainOf 49 = .ok (.goto 9, 3) := by decide +kernel
theorem d_M_gainOf_52 : decode b_M_gainOf 52 = .ok (.aload_n 0, 1) := by decide +kernel
theorem d_M_gainOf_53 : decode b_M_gainOf 53 = .ok (.getfield 16, 3) := by decide +kernel
theorem d_M_gainOf_56 : decode b_M_gainOf 56 = .ok (.iload_n 1, 1) := by decide +kernel
theorem d_M_gainOf_57 : decode b_M_gainOf 57 = .ok (.iaload, 1) := by decide +kernel
theorem d_M_gainOf_58 : decode b_M_gainOf 58 = .ok (.iload_n 2, 1) := by decide +kernel
theorem d_M_gainOf_59 : decode b_M_gainOf 59 = .ok (.isub, 1) := by decide +kernel
theorem d_M_gainOf_60 : decode b_M_gainOf 60 = .ok (.ireturn, 1) := by decide +kernel
abbrev b_M_findRests : ByteArray := prog_5_method_59_code
def y_M_findRests : MethodName := ⟨R_M, "findRests", "(IIII)V"⟩
theorem mc_M_findRests : Cond.code y_M_findRests b_M_findRests 11 none ∈ lw_use := g_use (List.mem_of_getElem? (i := 768) (by decide +kernel)) rfl
theorem d_M_findRests_0 : decode b_M_findRests 0 = .ok (.aload_n 0, 1) := by decide +kernel
theorem d_M_findRests_1 : decode b_M_findRests 1 = .ok (.iconst 0, 1) := by decide +kernel
theorem d_M_findRests_2 : decode b_M_findRests 2 = .ok (.putfield 189, 3) := by decide +kernel
theorem d_M_findRests_5 : decode b_M_findRests 5 = .ok (.aload_n 0, 1) := by decide +kernel
theorem d_M_findRests_6 : decode b_M_findRests 6 = .ok (.bipush (-9), 2) := by decide +kernel
theorem d_M_findRests_8 : decode b_M_findRests 8 = .ok (.putfield 192, 3) := by decide +kernel
theorem d_M_findRests_11 : decode b_M_findRests 11 = .ok (.iconst 0, 1) := by decide +kernel
theorem d_M_findRests_12 : decode b_M_findRests 12 = .ok (.istore 5, 2) := by decide +kernel
theorem d_M_findRests_14 : decode b_M_findRests 14 = .ok (.iload 5, 2) := by decide +kernel
theorem d_M_findRests_16 : decode b_M_findRests 16 = .ok (.iconst 4, 1) := by decide +kernel
theorem d_M_findRests_17 : decode b_M_findRests 17 = .ok (.if_icmp .ge 166, 3) := by decide +kernel
theorem d_M_findRests_20 : decode b_M_findRests 20 = .ok (.iconst 0, 1) := by decide +kernel
theorem d_M_findRests_21 : decode b_M_findRests 21 = .ok (.istore 6, 2) := by decide +kernel
theorem d_M_findRests_23 : decode b_M_findRests 23 = .ok (.iload 6, 2) := by decide +kernel
theorem d_M_findRests_25 : decode b_M_findRests 25 = .ok (.iconst 4, 1) := by decide +kernel
theorem d_M_findRests_26 : decode b_M_findRests 26 = .ok (.if_icmp .ge 151, 3) := by decide +kernel
theorem d_M_findRests_29 : decode b_M_findRests 29 = .ok (.aload_n 0, 1) := by decide +kernel
theorem d_M_findRests_30 : decode b_M_findRests 30 = .ok (.iload_n 1, 1) := by decide +kernel
theorem d_M_findRests_31 : decode b_M_findRests 31 = .ok (.iload 5, 2) := by decide +kernel
theorem d_M_findRests_33 : decode b_M_findRests 33 = .ok (.iload 6, 2) := by decide +kernel
theorem d_M_findRests_35 : decode b_M_findRests 35 = .ok (.iload_n 3, 1) := by decide +kernel
theorem d_M_findRests_36 : decode b_M_findRests 36 = .ok (.iload 4, 2) := by decide +kernel
theorem d_M_findRests_38 : decode b_M_findRests 38 = .ok (.invokevirtual 195, 3) := by decide +kernel
theorem d_M_findRests_41 : decode b_M_findRests 41 = .ok (.istore 7, 2) := by decide +kernel
theorem d_M_findRests_43 : decode b_M_findRests 43 = .ok (.aload_n 0, 1) := by decide +kernel
theorem d_M_findRests_44 : decode b_M_findRests 44 = .ok (.iload_n 2, 1) := by decide +kernel
theorem d_M_findRests_45 : decode b_M_findRests 45 = .ok (.iload 6, 2) := by decide +kernel
theorem d_M_findRests_47 : decode b_M_findRests 47 = .ok (.iload 5, 2) := by decide +kernel
theorem d_M_findRests_49 : decode b_M_findRests 49 = .ok (.iload_n 3, 1) := by decide +kernel
theorem d_M_findRests_50 : decode b_M_findRests 50 = .ok (.iload 4, 2) := by decide +kernel
theorem d_M_findRests_52 : decode b_M_findRests 52 = .ok (.invokevirtual 195, 3) := by decide +kernel
theorem d_M_findRests_55 : decode b_M_findRests 55 = .ok (.istore 8, 2) := by decide +kernel
theorem d_M_findRests_57 : decode b_M_findRests 57 = .ok (.iconst 1, 1) := by decide +kernel
theorem d_M_findRests_58 : decode b_M_findRests 58 = .ok (.istore 9, 2) := by decide +kernel
theorem d_M_findRests_60 : decode b_M_findRests 60 = .ok (.iconst 0, 1) := by decide +kernel
theorem d_M_findRests_61 : decode b_M_findRests 61 = .ok (.istore 10, 2) := by decide +kernel
theorem d_M_findRests_63 : decode b_M_findRests 63 = .ok (.iload 10, 2) := by decide +kernel
theorem d_M_findRests_65 : decode b_M_findRests 65 = .ok (.iconst 4, 1) := by decide +kernel
theorem d_M_findRests_66 : decode b_M_findRests 66 = .ok (.if_icmp .ge 55, 3) := by decide +kernel
theorem d_M_findRests_69 : decode b_M_findRests 69 = .ok (.iload 9, 2) := by decide +kernel
theorem d_M_findRests_71 : decode b_M_findRests 71 = .ok (.ifCond .eq 41, 3) := by decide +kernel
theorem d_M_findRests_74 : decode b_M_findRests 74 = .ok (.aload_n 0, 1) := by decide +kernel
theorem d_M_findRests_75 : decode b_M_findRests 75 = .ok (.iload_n 1, 1) := by decide +kernel
theorem d_M_findRests_76 : decode b_M_findRests 76 = .ok (.iload 10, 2) := by decide +kernel
theorem d_M_findRests_78 : decode b_M_findRests 78 = .ok (.iload 6, 2) := by decide +kernel
theorem d_M_findRests_80 : decode b_M_findRests 80 = .ok (.iload_n 3, 1) := by decide +kernel
theorem d_M_findRests_81 : decode b_M_findRests 81 = .ok (.iload 4, 2) := by decide +kernel
theorem d_M_findRests_83 : decode b_M_findRests 83 = .ok (.invokevirtual 195, 3) := by decide +kernel
theorem d_M_findRests_86 : decode b_M_findRests 86 = .ok (.iload 7, 2) := by decide +kernel
theorem d_M_findRests_88 : decode b_M_findRests 88 = .ok (.if_icmp .gt 24, 3) := by decide +kernel
theorem d_M_findRests_91 : decode b_M_findRests 91 = .ok (.aload_n 0, 1) := by decide +kernel
theorem d_M_findRests_92 : decode b_M_findRests 92 = .ok (.iload_n 2, 1) := by decide +kernel
theorem d_M_findRests_93 : decode b_M_findRests 93 = .ok (.iload 10, 2) := by decide +kernel
theorem d_M_findRests_95 : decode b_M_findRests 95 = .ok (.iload 5, 2) := by decide +kernel
theorem d_M_findRests_97 : decode b_M_findRests 97 = .ok (.iload_n 3, 1) := by decide +kernel
theorem d_M_findRests_98 : decode b_M_findRests 98 = .ok (.iload 4, 2) := by decide +kernel
theorem d_M_findRests_100 : decode b_M_findRests 100 = .ok (.invokevirtual 195, 3) := by decide +kernel
theorem d_M_findRests_103 : decode b_M_findRests 103 = .ok (.iload 8, 2) := by decide +kernel
theorem d_M_findRests_105 : decode b_M_findRests 105 = .ok (.if_icmp .gt 7, 3) := by decide +kernel
theorem d_M_findRests_108 : decode b_M_findRests 108 = .ok (.iconst 1, 1) := by decide +kernel
theorem d_M_findRests_109 : decode b_M_findRests 109 = .ok (.goto 4, 3) := by decide +kernel
theorem d_M_findRests_112 : decode b_M_findRests 112 = .ok (.iconst 0, 1) := by decide +kernel
theorem d_M_findRests_113 : decode b_M_findRests 113 = .ok (.istore 9, 2) := by decide +kernel
theorem d_M_findRests_115 : decode b_M_findRests 115 = .ok (.iinc 10 1, 3) := by decide +kernel
theorem d_M_findRests_118 : decode b_M_findRests 118 = .ok (.goto (-55), 3) := by decide +kernel
theorem d_M_findRests_121 : decode b_M_findRests 121 = .ok (.aload_n 0, 1) := by decide +kernel
theorem d_M_findRests_122 : decode b_M_findRests 122 = .ok (.iload 9, 2) := by decide +kernel
theorem d_M_findRests_124 : decode b_M_findRests 124 = .ok (.ifCond .eq 21, 3) := by decide +kernel
theorem d_M_findRests_127 : decode b_M_findRests 127 = .ok (.aload_n 0, 1) := by decide +kernel
theorem d_M_findRests_128 : decode b_M_findRests 128 = .ok (.getfield 189, 3) := by decide +kernel
theorem d_M_findRests_131 : decode b_M_findRests 131 = .ok (.ifCond .ne 14, 3) := by decide +kernel
theorem d_M_findRests_134 : decode b_M_findRests 134 = .ok (.bipush 10, 2) := by decide +kernel
theorem d_M_findRests_136 : decode b_M_findRests 136 = .ok (.iload 5, 2) := by decide +kernel
theorem d_M_findRests_138 : decode b_M_findRests 138 = .ok (.imul, 1) := by decide +kernel
theorem d_M_findRests_139 : decode b_M_findRests 139 = .ok (.iload 6, 2) := by decide +kernel
theorem d_M_findRests_141 : decode b_M_findRests 141 = .ok (.iadd, 1) := by decide +kernel
theorem d_M_findRests_142 : decode b_M_findRests 142 = .ok (.goto 7, 3) := by decide +kernel
theorem d_M_findRests_145 : decode b_M_findRests 145 = .ok (.aload_n 0, 1) := by decide +kernel
theorem d_M_findRests_146 : decode b_M_findRests 146 = .ok (.getfield 192, 3) := by decide +kernel
theorem d_M_findRests_149 : decode b_M_findRests 149 = .ok (.putfield 192, 3) := by decide +kernel
theorem d_M_findRests_152 : decode b_M_findRests 152 = .ok (.aload_n 0, 1) := by decide +kernel
theorem d_M_findRests_153 : decode b_M_findRests 153 = .ok (.dup, 1) := by decide +kernel
theorem d_M_findRests_154 : decode b_M_findRests 154 = .ok (.getfield 189, 3) := by decide +kernel
theorem d_M_findRests_157 : decode b_M_findRests 157 = .ok (.iload 9, 2) := by decide +kernel
theorem d_M_findRests_159 : decode b_M_findRests 159 = .ok (.ifCond .eq 7, 3) := by decide +kernel
theorem d_M_findRests_162 : decode b_M_findRests 162 = .ok (.iconst 1, 1) := by decide +kernel
theorem d_M_findRests_163 : decode b_M_findRests 163 = .ok (.goto 4, 3) := by decide +kernel
theorem d_M_findRests_166 : decode b_M_findRests 166 = .ok (.iconst 0, 1) := by decide +kernel
theorem d_M_findRests_167 : decode b_M_findRests 167 = .ok (.iadd, 1) := by decide +kernel
theorem d_M_findRests_168 : decode b_M_findRests 168 = .ok (.putfield 189, 3) := by decide +kernel
theorem d_M_findRests_171 : decode b_M_findRests 171 = .ok (.iinc 6 1, 3) := by decide +kernel
theorem d_M_findRests_174 : decode b_M_findRests 174 = .ok (.goto (-151), 3) := by decide +kernel
theorem d_M_findRests_177 : decode b_M_findRests 177 = .ok (.iinc 5 1, 3) := by decide +kernel
theorem d_M_findRests_180 : decode b_M_findRests 180 = .ok (.goto (-166), 3) := by decide +kernel
theorem d_M_findRests_183 : decode b_M_findRests 183 = .ok (.return_, 1) := by decide +kernel
abbrev b_M_rests : ByteArray := prog_5_method_60_code
def y_M_rests : MethodName := ⟨R_M, "rests", "(IIIII)I"⟩
theorem mc_M_rests : Cond.code y_M_rests b_M_rests 6 (Option.some .int) ∈ lw_use := g_use (List.mem_of_getElem? (i := 764) (by decide +kernel)) rfl
theorem d_M_rests_0 : decode b_M_rests 0 = .ok (.aload_n 0, 1) := by decide +kernel
theorem d_M_rests_1 : decode b_M_rests 1 = .ok (.iconst 0, 1) := by decide +kernel
theorem d_M_rests_2 : decode b_M_rests 2 = .ok (.putfield 47, 3) := by decide +kernel
theorem d_M_rests_5 : decode b_M_rests 5 = .ok (.aload_n 0, 1) := by decide +kernel
theorem d_M_rests_6 : decode b_M_rests 6 = .ok (.iload_n 1, 1) := by decide +kernel
theorem d_M_rests_7 : decode b_M_rests 7 = .ok (.invokevirtual 115, 3) := by decide +kernel
theorem d_M_rests_10 : decode b_M_rests 10 = .ok (.ifCond .ne 19, 3) := by decide +kernel
theorem d_M_rests_13 : decode b_M_rests 13 = .ok (.aload_n 0, 1) := by decide +kernel
theorem d_M_rests_14 : decode b_M_rests 14 = .ok (.iload_n 2, 1) := by decide +kernel
theorem d_M_rests_15 : decode b_M_rests 15 = .ok (.invokevirtual 115, 3) := by decide +kernel
theorem d_M_rests_18 : decode b_M_rests 18 = .ok (.ifCond .ne 11, 3) := by decide +kernel
theorem d_M_rests_21 : decode b_M_rests 21 = .ok (.aload_n 0, 1) := by decide +kernel
theorem d_M_rests_22 : decode b_M_rests 22 = .ok (.iload_n 3, 1) := by decide +kernel
theorem d_M_rests_23 : decode b_M_rests 23 = .ok (.invokevirtual 115, 3) := by decide +kernel
theorem d_M_rests_26 : decode b_M_rests 26 = .ok (.ifCond .eq 5, 3) := by decide +kernel
theorem d_M_rests_29 : decode b_M_rests 29 = .ok (.iconst (-1), 1) := by decide +kernel
theorem d_M_rests_30 : decode b_M_rests 30 = .ok (.ireturn, 1) := by decide +kernel
theorem d_M_rests_31 : decode b_M_rests 31 = .ok (.iload_n 1, 1) := by decide +kernel
theorem d_M_rests_32 : decode b_M_rests 32 = .ok (.iload_n 2, 1) := by decide +kernel
theorem d_M_rests_33 : decode b_M_rests 33 = .ok (.if_icmp .eq 22, 3) := by decide +kernel
theorem d_M_rests_36 : decode b_M_rests 36 = .ok (.iload 4, 2) := by decide +kernel
theorem d_M_rests_38 : decode b_M_rests 38 = .ok (.invokestatic 119, 3) := by decide +kernel
theorem d_M_rests_41 : decode b_M_rests 41 = .ok (.ifCond .ne 14, 3) := by decide +kernel
theorem d_M_rests_44 : decode b_M_rests 44 = .ok (.iload 5, 2) := by decide +kernel
theorem d_M_rests_46 : decode b_M_rests 46 = .ok (.i2l, 1) := by decide +kernel
theorem d_M_rests_47 : decode b_M_rests 47 = .ok (.lconst 0, 1) := by decide +kernel
theorem d_M_rests_48 : decode b_M_rests 48 = .ok (.lconst 1, 1) := by decide +kernel
theorem d_M_rests_49 : decode b_M_rests 49 = .ok (.invokestatic 54, 3) := by decide +kernel
theorem d_M_rests_52 : decode b_M_rests 52 = .ok (.ifCond .ne 6, 3) := by decide +kernel
theorem d_M_rests_55 : decode b_M_rests 55 = .ok (.bipush (-2), 2) := by decide +kernel
theorem d_M_rests_57 : decode b_M_rests 57 = .ok (.ireturn, 1) := by decide +kernel
theorem d_M_rests_58 : decode b_M_rests 58 = .ok (.aload_n 0, 1) := by decide +kernel
theorem d_M_rests_59 : decode b_M_rests 59 = .ok (.iload_n 1, 1) := by decide +kernel
theorem d_M_rests_60 : decode b_M_rests 60 = .ok (.iload_n 2, 1) := by decide +kernel
theorem d_M_rests_61 : decode b_M_rests 61 = .ok (.iload_n 3, 1) := by decide +kernel
theorem d_M_rests_62 : decode b_M_rests 62 = .ok (.iload 4, 2) := by decide +kernel
theorem d_M_rests_64 : decode b_M_rests 64 = .ok (.invokevirtual 199, 3) := by decide +kernel
theorem d_M_rests_67 : decode b_M_rests 67 = .ok (.iload 5, 2) := by decide +kernel
theorem d_M_rests_69 : decode b_M_rests 69 = .ok (.ifCond .ne 10, 3) := by decide +kernel
theorem d_M_rests_72 : decode b_M_rests 72 = .ok (.aload_n 0, 1) := by decide +kernel
theorem d_M_rests_73 : decode b_M_rests 73 = .ok (.getfield 189, 3) := by decide +kernel
theorem d_M_rests_76 : decode b_M_rests 76 = .ok (.goto 7, 3) := by decide +kernel
theorem d_M_rests_79 : decode b_M_rests 79 = .ok (.aload_n 0, 1) := by decide +kernel
theorem d_M_rests_80 : decode b_M_rests 80 = .ok (.getfield 192, 3) := by decide +kernel
theorem d_M_rests_83 : decode b_M_rests 83 = .ok (.ireturn, 1) := by decide +kernel
abbrev b_M_threes : ByteArray := prog_5_method_61_code
def y_M_threes : MethodName := ⟨R_M, "threes", "(IIIIZ)I"⟩
theorem mc_M_threes : Cond.code y_M_threes b_M_threes 12 (Option.some .int) ∈ lw_use := g_use (List.mem_of_getElem? (i := 776) (by decide +kernel)) rfl
theorem d_M_threes_0 : decode b_M_threes 0 = .ok (.aload_n 0, 1) := by decide +kernel
theorem d_M_threes_1 : decode b_M_threes 1 = .ok (.iconst 0, 1) := by decide +kernel
theorem d_M_threes_2 : decode b_M_threes 2 = .ok (.putfield 47, 3) := by decide +kernel
theorem d_M_threes_5 : decode b_M_threes 5 = .ok (.aload_n 0, 1) := by decide +kernel
theorem d_M_threes_6 : decode b_M_threes 6 = .ok (.iload_n 1, 1) := by decide +kernel
theorem d_M_threes_7 : decode b_M_threes 7 = .ok (.invokevirtual 115, 3) := by decide +kernel
theorem d_M_threes_10 : decode b_M_threes 10 = .ok (.ifCond .eq 5, 3) := by decide +kernel
theorem d_M_threes_13 : decode b_M_threes 13 = .ok (.iconst (-1), 1) := by decide +kernel
theorem d_M_threes_14 : decode b_M_threes 14 = .ok (.ireturn, 1) := by decide +kernel
theorem d_M_threes_15 : decode b_M_threes 15 = .ok (.iload_n 2, 1) := by decide +kernel
theorem d_M_threes_16 : decode b_M_threes 16 = .ok (.invokestatic 119, 3) := by decide +kernel
theorem d_M_threes_19 : decode b_M_threes 19 = .ok (.ifCond .ne 23, 3) := by decide +kernel
theorem d_M_threes_22 : decode b_M_threes 22 = .ok (.iload_n 3, 1) := by decide +kernel
theorem d_M_threes_23 : decode b_M_threes 23 = .ok (.invokestatic 119, 3) := by decide +kernel
theorem d_M_threes_26 : decode b_M_threes 26 = .ok (.ifCond .ne 16, 3) := by decide +kernel
theorem d_M_threes_29 : decode b_M_threes 29 = .ok (.iload 4, 2) := by decide +kernel
theorem d_M_threes_31 : decode b_M_threes 31 = .ok (.i2l, 1) := by decide +kernel
theorem d_M_threes_32 : decode b_M_threes 32 = .ok (.lconst 0, 1) := by decide +kernel
theorem d_M_threes_33 : decode b_M_threes 33 = .ok (.ldc2_w 203, 3) := by decide +kernel
theorem d_M_threes_36 : decode b_M_threes 36 = .ok (.invokestatic 54, 3) := by decide +kernel
theorem d_M_threes_39 : decode b_M_threes 39 = .ok (.ifCond .ne 6, 3) := by decide +kernel
theorem d_M_threes_42 : decode b_M_threes 42 = .ok (.bipush (-2), 2) := by decide +kernel
theorem d_M_threes_44 : decode b_M_threes 44 = .ok (.ireturn, 1) := by decide +kernel
theorem d_M_threes_45 : decode b_M_threes 45 = .ok (.iconst 0, 1) := by decide +kernel
theorem d_M_threes_46 : decode b_M_threes 46 = .ok (.istore 6, 2) := by decide +kernel
theorem d_M_threes_48 : decode b_M_threes 48 = .ok (.iconst 0, 1) := by decide +kernel
theorem d_M_threes_49 : decode b_M_threes 49 = .ok (.istore 7, 2) := by decide +kernel
theorem d_M_threes_51 : decode b_M_threes 51 = .ok (.iload 7, 2) := by decide +kernel
theorem d_M_threes_53 : decode b_M_threes 53 = .ok (.bipush 8, 2) := by decide +kernel
theorem d_M_threes_55 : decode b_M_threes 55 = .ok (.if_icmp .ge 116, 3) := by decide +kernel
theorem d_M_threes_58 : decode b_M_threes 58 = .ok (.iconst 1, 1) := by decide +kernel
theorem d_M_threes_59 : decode b_M_threes 59 = .ok (.istore 8, 2) := by decide +kernel
theorem d_M_threes_61 : decode b_M_threes 61 = .ok (.iconst 1, 1) := by decide +kernel
theorem d_M_threes_62 : decode b_M_threes 62 = .ok (.istore 9, 2) := by decide +kernel
theorem d_M_threes_64 : decode b_M_threes 64 = .ok (.aload_n 0, 1) := by decide +kernel
theorem d_M_threes_65 : decode b_M_threes 65 = .ok (.invokevirtual 167, 3) := by decide +kernel
theorem d_M_threes_68 : decode b_M_threes 68 = .ok (.iconst 0, 1) := by decide +kernel
theorem d_M_threes_69 : decode b_M_threes 69 = .ok (.istore 10, 2) := by decide +kernel
theorem d_M_threes_71 : decode b_M_threes 71 = .ok (.iload 10, 2) := by decide +kernel
theorem d_M_threes_73 : decode b_M_threes 73 = .ok (.iconst 3, 1) := by decide +kernel
theorem d_M_threes_74 : decode b_M_threes 74 = .ok (.if_icmp .ge 75, 3) := by decide +kernel
theorem d_M_threes_77 : decode b_M_threes 77 = .ok (.iload 7, 2) := by decide +kernel
theorem d_M_threes_79 : decode b_M_threes 79 = .ok (.iload 10, 2) := by decide +kernel
theorem d_M_threes_81 : decode b_M_threes 81 = .ok (.invokestatic 78, 3) := by decide +kernel
theorem d_M_threes_84 : decode b_M_threes 84 = .ok (.istore 11, 2) := by decide +kernel
theorem d_M_threes_86 : decode b_M_threes 86 = .ok (.iload 8, 2) := by decide +kernel
theorem d_M_threes_88 : decode b_M_threes 88 = .ok (.iload 11, 2) := by decide +kernel
theorem d_M_threes_90 : decode b_M_threes 90 = .ok (.ifCond .eq 8, 3) := by decide +kernel
theorem d_M_threes_93 : decode b_M_threes 93 = .ok (.iload 4, 2) := by decide +kernel
theorem d_M_threes_95 : decode b_M_threes 95 = .ok (.goto 8, 3) := by decide +kernel
theorem d_M_threes_98 : decode b_M_threes 98 = .ok (.bipush 10, 2) := by decide +kernel
theorem d_M_threes_100 : decode b_M_threes 100 = .ok (.iload 4, 2) := by decide +kernel
theorem d_M_threes_102 : decode b_M_threes 102 = .ok (.isub, 1) := by decide +kernel
theorem d_M_threes_103 : decode b_M_threes 103 = .ok (.imul, 1) := by decide +kernel
theorem d_M_threes_104 : decode b_M_threes 104 = .ok (.istore 8, 2) := by decide +kernel
theorem d_M_threes_106 : decode b_M_threes 106 = .ok (.aload_n 0, 1) := by decide +kernel
theorem d_M_threes_107 : decode b_M_threes 107 = .ok (.aload_n 0, 1) := by decide +kernel
theorem d_M_threes_108 : decode b_M_threes 108 = .ok (.getfield 28, 3) := by decide +kernel
theorem d_M_threes_111 : decode b_M_threes 111 = .ok (.iload 11, 2) := by decide +kernel
theorem d_M_threes_113 : decode b_M_threes 113 = .ok (.ifCond .eq 7, 3) := by decide +kernel
theorem d_M_threes_116 : decode b_M_threes 116 = .ok (.iload_n 2, 1) := by decide +kernel
theorem d_M_threes_117 : decode b_M_threes 117 = .ok (.goto 4, 3) := by decide +kernel
theorem d_M_threes_120 : decode b_M_threes 120 = .ok (.iload_n 3, 1) := by decide +kernel
theorem d_M_threes_121 : decode b_M_threes 121 = .ok (.invokevirtual 125, 3) := by decide +kernel
theorem d_M_threes_124 : decode b_M_threes 124 = .ok (.iload_n 1, 1) := by decide +kernel
theorem d_M_threes_125 : decode b_M_threes 125 = .ok (.invokestatic 78, 3) := by decide +kernel
theorem d_M_threes_128 : decode b_M_threes 128 = .ok (.ifCond .ne 12, 3) := by decide +kernel
theorem d_M_threes_131 : decode b_M_threes 131 = .ok (.iload 9, 2) := by decide +kernel
theorem d_M_threes_133 : decode b_M_threes 133 = .ok (.ifCond .eq 7, 3) := by decide +kernel
theorem d_M_threes_136 : decode b_M_threes 136 = .ok (.iconst 1, 1) := by decide +kernel
theorem d_M_threes_137 : decode b_M_threes 137 = .ok (.goto 4, 3) := by decide +kernel
theorem d_M_threes_140 : decode b_M_threes 140 = .ok (.iconst 0, 1) := by decide +kernel
theorem d_M_threes_141 : decode b_M_threes 141 = .ok (.istore 9, 2) := by decide +kernel
theorem d_M_threes_143 : decode b_M_threes 143 = .ok (.iinc 10 1, 3) := by decide +kernel
theorem d_M_threes_146 : decode b_M_threes 146 = .ok (.goto (-75), 3) := by decide +kernel
theorem d_M_threes_149 : decode b_M_threes 149 = .ok (.iload 6, 2) := by decide +kernel
theorem d_M_threes_151 : decode b_M_threes 151 = .ok (.iload 9, 2) := by decide +kernel
theorem d_M_threes_153 : decode b_M_threes 153 = .ok (.ifCond .eq 8, 3) := by decide +kernel
theorem d_M_threes_156 : decode b_M_threes 156 = .ok (.iload 8, 2) := by decide +kernel
theorem d_M_threes_158 : decode b_M_threes 158 = .ok (.goto 4, 3) := by decide +kernel
theorem d_M_threes_161 : decode b_M_threes 161 = .ok (.iconst 0, 1) := by decide +kernel
theorem d_M_threes_162 : decode b_M_threes 162 = .ok (.iadd, 1) := by decide +kernel
theorem d_M_threes_163 : decode b_M_threes 163 = .ok (.istore 6, 2) := by decide +kernel
theorem d_M_threes_165 : decode b_M_threes 165 = .ok (.iinc 7 1, 3) := by decide +kernel
theorem d_M_threes_168 : decode b_M_threes 168 = .ok (.goto (-117), 3) := by decide +kernel
theorem d_M_threes_171 : decode b_M_threes 171 = .ok (.iload 6, 2) := by decide +kernel
theorem d_M_threes_173 : decode b_M_threes 173 = .ok (.sipush 1000, 3) := by decide +kernel
theorem d_M_threes_176 : decode b_M_threes 176 = .ok (.iload 5, 2) := by decide +kernel
theorem d_M_threes_178 : decode b_M_threes 178 = .ok (.invokestatic 185, 3) := by decide +kernel
theorem d_M_threes_181 : decode b_M_threes 181 = .ok (.ireturn, 1) := by decide +kernel
abbrev b_M_seed : ByteArray := prog_5_method_62_code
def y_M_seed : MethodName := ⟨R_M, "seed", "(J)J"⟩
theorem mc_M_seed : Cond.code y_M_seed b_M_seed 5 (Option.some .long) ∈ lw_use := g_use (List.mem_of_getElem? (i := 781) (by decide +kernel)) rfl
theorem d_M_seed_0 : decode b_M_seed 0 = .ok (.aload_n 0, 1) := by decide +kernel
theorem d_M_seed_1 : decode b_M_seed 1 = .ok (.iconst 0, 1) := by decide +kernel
theorem d_M_seed_2 : decode b_M_seed 2 = .ok (.putfield 47, 3) := by decide +kernel
theorem d_M_seed_5 : decode b_M_seed 5 = .ok (.aload_n 0, 1) := by decide +kernel
theorem d_M_seed_6 : decode b_M_seed 6 = .ok (.getfield 205, 3) := by decide +kernel
theorem d_M_seed_9 : decode b_M_seed 9 = .ok (.lstore_n 3, 1) := by decide +kernel
theorem d_M_seed_10 : decode b_M_seed 10 = .ok (.aload_n 0, 1) := by decide +kernel
theorem d_M_seed_11 : decode b_M_seed 11 = .ok (.lload_n 1, 1) := by decide +kernel
theorem d_M_seed_12 : decode b_M_seed 12 = .ok (.putfield 205, 3) := by decide +kernel
theorem d_M_seed_15 : decode b_M_seed 15 = .ok (.lload_n 3, 1) := by decide +kernel
theorem d_M_seed_16 : decode b_M_seed 16 = .ok (.lreturn, 1) := by decide +kernel
abbrev b_M_winters : ByteArray := prog_5_method_63_code
def y_M_winters : MethodName := ⟨R_M, "winters", "(I)I"⟩
theorem mc_M_winters : Cond.code y_M_winters b_M_winters 4 (Option.some .int) ∈ lw_use := g_use (List.mem_of_getElem? (i := 785) (by decide +kernel)) rfl
theorem d_M_winters_0 : decode b_M_winters 0 = .ok (.aload_n 0, 1) := by decide +kernel
theorem d_M_winters_1 : decode b_M_winters 1 = .ok (.iconst 0, 1) := by decide +kernel
theorem d_M_winters_2 : decode b_M_winters 2 = .ok (.putfield 47, 3) := by decide +kernel
theorem d_M_winters_5 : decode b_M_winters 5 = .ok (.iload_n 1, 1) := by decide +kernel
theorem d_M_winters_6 : decode b_M_winters 6 = .ok (.i2l, 1) := by decide +kernel
theorem d_M_winters_7 : decode b_M_winters 7 = .ok (.lconst 1, 1) := by decide +kernel
theorem d_M_winters_8 : decode b_M_winters 8 = .ok (.ldc2_w 58, 3) := by decide +kernel
theorem d_M_winters_11 : decode b_M_winters 11 = .ok (.invokestatic 54, 3) := by decide +kernel
theorem d_M_winters_14 : decode b_M_winters 14 = .ok (.ifCond .ne 6, 3) := by decide +kernel
theorem d_M_winters_17 : decode b_M_winters 17 = .ok (.bipush (-2), 2) := by decide +kernel
theorem d_M_winters_19 : decode b_M_winters 19 = .ok (.ireturn, 1) := by decide +kernel
theorem d_M_winters_20 : decode b_M_winters 20 = .ok (.aload_n 0, 1) := by decide +kernel
theorem d_M_winters_21 : decode b_M_winters 21 = .ok (.invokevirtual 167, 3) := by decide +kernel
theorem d_M_winters_24 : decode b_M_winters 24 = .ok (.iconst 0, 1) := by decide +kernel
theorem d_M_winters_25 : decode b_M_winters 25 = .ok (.istore_n 2, 1) := by decide +kernel
theorem d_M_winters_26 : decode b_M_winters 26 = .ok (.iconst 0, 1) := by decide +kernel
theorem d_M_winters_27 : decode b_M_winters 27 = .ok (.istore_n 3, 1) := by decide +kernel
theorem d_M_winters_28 : decode b_M_winters 28 = .ok (.iload_n 3, 1) := by decide +kernel
theorem d_M_winters_29 : decode b_M_winters 29 = .ok (.iload_n 1, 1) := by decide +kernel
theorem d_M_winters_30 : decode b_M_winters 30 = .ok (.if_icmp .ge 60, 3) := by decide +kernel
theorem d_M_winters_33 : decode b_M_winters 33 = .ok (.aload_n 0, 1) := by decide +kernel
theorem d_M_winters_34 : decode b_M_winters 34 = .ok (.aload_n 0, 1) := by decide +kernel
theorem d_M_winters_35 : decode b_M_winters 35 = .ok (.getfield 205, 3) := by decide +kernel
theorem d_M_winters_38 : decode b_M_winters 38 = .ok (.ldc2_w 209, 3) := by decide +kernel
theorem d_M_winters_41 : decode b_M_winters 41 = .ok (.lmul, 1) := by decide +kernel
theorem d_M_winters_42 : decode b_M_winters 42 = .ok (.ldc2_w 211, 3) := by decide +kernel
theorem d_M_winters_45 : decode b_M_winters 45 = .ok (.ladd, 1) := by decide +kernel
theorem d_M_winters_46 : decode b_M_winters 46 = .ok (.putfield 205, 3) := by decide +kernel
theorem d_M_winters_49 : decode b_M_winters 49 = .ok (.iload_n 2, 1) := by decide +kernel
theorem d_M_winters_50 : decode b_M_winters 50 = .ok (.aload_n 0, 1) := by decide +kernel
theorem d_M_winters_51 : decode b_M_winters 51 = .ok (.aload_n 0, 1) := by decide +kernel
theorem d_M_winters_52 : decode b_M_winters 52 = .ok (.aload_n 0, 1) := by decide +kernel
theorem d_M_winters_53 : decode b_M_winters 53 = .ok (.getfield 28, 3) := by decide +kernel
theorem d_M_winters_56 : decode b_M_winters 56 = .ok (.aload_n 0, 1) := by decide +kernel
theorem d_M_winters_57 : decode b_M_winters 57 = .ok (.aload_n 0, 1) := by decide +kernel
theorem d_M_winters_58 : decode b_M_winters 58 = .ok (.getfield 28, 3) := by decide +kernel
theorem d_M_winters_61 : decode b_M_winters 61 = .ok (.aload_n 0, 1) := by decide +kernel
theorem d_M_winters_62 : decode b_M_winters 62 = .ok (.getfield 205, 3) := by decide +kernel
theorem d_M_winters_65 : decode b_M_winters 65 = .ok (.bipush 33, 2) := by decide +kernel
theorem d_M_winters_67 : decode b_M_winters 67 = .ok (.lushr, 1) := by decide +kernel
theorem d_M_winters_68 : decode b_M_winters 68 = .ok (.ldc2_w 213, 3) := by decide +kernel
theorem d_M_winters_71 : decode b_M_winters 71 = .ok (.lrem, 1) := by decide +kernel
theorem d_M_winters_72 : decode b_M_winters 72 = .ok (.l2i, 1) := by decide +kernel
theorem d_M_winters_73 : decode b_M_winters 73 = .ok (.invokevirtual 125, 3) := by decide +kernel
theorem d_M_winters_76 : decode b_M_winters 76 = .ok (.invokevirtual 128, 3) := by decide +kernel
theorem d_M_winters_79 : decode b_M_winters 79 = .ok (.invokevirtual 131, 3) := by decide +kernel
theorem d_M_winters_82 : decode b_M_winters 82 = .ok (.iadd, 1) := by decide +kernel
theorem d_M_winters_83 : decode b_M_winters 83 = .ok (.istore_n 2, 1) := by decide +kernel
theorem d_M_winters_84 : decode b_M_winters 84 = .ok (.iinc 3 1, 3) := by decide +kernel
theorem d_M_winters_87 : decode b_M_winters 87 = .ok (.goto (-59), 3) := by decide +kernel
theorem d_M_winters_90 : decode b_M_winters 90 = .ok (.iload_n 2, 1) := by decide +kernel
theorem d_M_winters_91 : decode b_M_winters 91 = .ok (.ireturn, 1) := by decide +kernel
abbrev b_M_keep : ByteArray := prog_5_method_64_code
def y_M_keep : MethodName := ⟨R_M, "keep", "(I)I"⟩
theorem mc_M_keep : Cond.code y_M_keep b_M_keep 3 (Option.some .int) ∈ lw_use := g_use (List.mem_of_getElem? (i := 792) (by decide +kernel)) rfl
theorem d_M_keep_0 : decode b_M_keep 0 = .ok (.aload_n 0, 1) := by decide +kernel
theorem d_M_keep_1 : decode b_M_keep 1 = .ok (.iconst 0, 1) := by decide +kernel
theorem d_M_keep_2 : decode b_M_keep 2 = .ok (.putfield 47, 3) := by decide +kernel
theorem d_M_keep_5 : decode b_M_keep 5 = .ok (.iload_n 1, 1) := by decide +kernel
theorem d_M_keep_6 : decode b_M_keep 6 = .ok (.i2l, 1) := by decide +kernel
theorem d_M_keep_7 : decode b_M_keep 7 = .ok (.lconst 0, 1) := by decide +kernel
theorem d_M_keep_8 : decode b_M_keep 8 = .ok (.lconst 1, 1) := by decide +kernel
theorem d_M_keep_9 : decode b_M_keep 9 = .ok (.invokestatic 54, 3) := by decide +kernel
theorem d_M_keep_12 : decode b_M_keep 12 = .ok (.ifCond .ne 5, 3) := by decide +kernel
theorem d_M_keep_15 : decode b_M_keep 15 = .ok (.iconst (-1), 1) := by decide +kernel
theorem d_M_keep_16 : decode b_M_keep 16 = .ok (.ireturn, 1) := by decide +kernel
theorem d_M_keep_17 : decode b_M_keep 17 = .ok (.aload_n 0, 1) := by decide +kernel
theorem d_M_keep_18 : decode b_M_keep 18 = .ok (.getfield 37, 3) := by decide +kernel
theorem d_M_keep_21 : decode b_M_keep 21 = .ok (.iload_n 1, 1) := by decide +kernel
theorem d_M_keep_22 : decode b_M_keep 22 = .ok (.iconst 1, 1) := by decide +kernel
theorem d_M_keep_23 : decode b_M_keep 23 = .ok (.bastore, 1) := by decide +kernel
theorem d_M_keep_24 : decode b_M_keep 24 = .ok (.iconst 0, 1) := by decide +kernel
theorem d_M_keep_25 : decode b_M_keep 25 = .ok (.istore_n 2, 1) := by decide +kernel
theorem d_M_keep_26 : decode b_M_keep 26 = .ok (.iload_n 2, 1) := by decide +kernel
theorem d_M_keep_27 : decode b_M_keep 27 = .ok (.bipush 57, 2) := by decide +kernel
theorem d_M_keep_29 : decode b_M_keep 29 = .ok (.if_icmp .ge 26, 3) := by decide +kernel
theorem d_M_keep_32 : decode b_M_keep 32 = .ok (.aload_n 0, 1) := by decide +kernel
theorem d_M_keep_33 : decode b_M_keep 33 = .ok (.getfield 34, 3) := by decide +kernel
theorem d_M_keep_36 : decode b_M_keep 36 = .ok (.bipush 57, 2) := by decide +kernel
theorem d_M_keep_38 : decode b_M_keep 38 = .ok (.iload_n 1, 1) := by decide +kernel
theorem d_M_keep_39 : decode b_M_keep 39 = .ok (.imul, 1) := by decide +kernel
theorem d_M_keep_40 : decode b_M_keep 40 = .ok (.iload_n 2, 1) := by decide +kernel
theorem d_M_keep_41 : decode b_M_keep 41 = .ok (.iadd, 1) := by decide +kernel
theorem d_M_keep_42 : decode b_M_keep 42 = .ok (.aload_n 0, 1) := by decide +kernel
theorem d_M_keep_43 : decode b_M_keep 43 = .ok (.getfield 25, 3) := by decide +kernel
theorem d_M_keep_46 : decode b_M_keep 46 = .ok (.iload_n 2, 1) := by decide +kernel
theorem d_M_keep_47 : decode b_M_keep 47 = .ok (.iaload, 1) := by decide +kernel
theorem d_M_keep_48 : decode b_M_keep 48 = .ok (.iastore, 1) := by decide +kernel
theorem d_M_keep_49 : decode b_M_keep 49 = .ok (.iinc 2 1, 3) := by decide +kernel
theorem d_M_keep_52 : decode b_M_keep 52 = .ok (.goto (-26), 3) := by decide +kernel
theorem d_M_keep_55 : decode b_M_keep 55 = .ok (.aload_n 0, 1) := by decide +kernel
theorem d_M_keep_56 : decode b_M_keep 56 = .ok (.getfield 25, 3) := by decide +kernel
theorem d_M_keep_59 : decode b_M_keep 59 = .ok (.bipush 20, 2) := by decide +kernel
theorem d_M_keep_61 : decode b_M_keep 61 = .ok (.iaload, 1) := by decide +kernel
theorem d_M_keep_62 : decode b_M_keep 62 = .ok (.ireturn, 1) := by decide +kernel
abbrev b_M_again : ByteArray := prog_5_method_65_code
def y_M_again : MethodName := ⟨R_M, "again", "(I)I"⟩
theorem mc_M_again : Cond.code y_M_again b_M_again 3 (Option.some .int) ∈ lw_use := g_use (List.mem_of_getElem? (i := 796) (by decide +kernel)) rfl
theorem d_M_again_0 : decode b_M_again 0 = .ok (.aload_n 0, 1) := by decide +kernel
theorem d_M_again_1 : decode b_M_again 1 = .ok (.iconst 0, 1) := by decide +kernel
theorem d_M_again_2 : decode b_M_again 2 = .ok (.putfield 47, 3) := by decide +kernel
theorem d_M_again_5 : decode b_M_again 5 = .ok (.iload_n 1, 1) := by decide +kernel
theorem d_M_again_6 : decode b_M_again 6 = .ok (.i2l, 1) := by decide +kernel
theorem d_M_again_7 : decode b_M_again 7 = .ok (.lconst 0, 1) := by decide +kernel
theorem d_M_again_8 : decode b_M_again 8 = .ok (.lconst 1, 1) := by decide +kernel
theorem d_M_again_9 : decode b_M_again 9 = .ok (.invokestatic 54, 3) := by decide +kernel
theorem d_M_again_12 : decode b_M_again 12 = .ok (.ifCond .ne 5, 3) := by decide +kernel
theorem d_M_again_15 : decode b_M_again 15 = .ok (.iconst (-1), 1) := by decide +kernel
theorem d_M_again_16 : decode b_M_again 16 = .ok (.ireturn, 1) := by decide +kernel
theorem d_M_again_17 : decode b_M_again 17 = .ok (.aload_n 0, 1) := by decide +kernel
theorem d_M_again_18 : decode b_M_again 18 = .ok (.getfield 37, 3) := by decide +kernel
theorem d_M_again_21 : decode b_M_again 21 = .ok (.iload_n 1, 1) := by decide +kernel
theorem d_M_again_22 : decode b_M_again 22 = .ok (.baload, 1) := by decide +kernel
theorem d_M_again_23 : decode b_M_again 23 = .ok (.ifCond .ne 6, 3) := by decide +kernel
theorem d_M_again_26 : decode b_M_again 26 = .ok (.bipush (-3), 2) := by decide +kernel
theorem d_M_again_28 : decode b_M_again 28 = .ok (.ireturn, 1) := by decide +kernel
theorem d_M_again_29 : decode b_M_again 29 = .ok (.iconst 0, 1) := by decide +kernel
theorem d_M_again_30 : decode b_M_again 30 = .ok (.istore_n 2, 1) := by decide +kernel
theorem d_M_again_31 : decode b_M_again 31 = .ok (.iload_n 2, 1) := by decide +kernel
theorem d_M_again_32 : decode b_M_again 32 = .ok (.bipush 57, 2) := by decide +kernel
theorem d_M_again_34 : decode b_M_again 34 = .ok (.if_icmp .ge 26, 3) := by decide +kernel
theorem d_M_again_37 : decode b_M_again 37 = .ok (.aload_n 0, 1) := by decide +kernel
theorem d_M_again_38 : decode b_M_again 38 = .ok (.getfield 25, 3) := by decide +kernel
theorem d_M_again_41 : decode b_M_again 41 = .ok (.iload_n 2, 1) := by decide +kernel
theorem d_M_again_42 : decode b_M_again 42 = .ok (.aload_n 0, 1) := by decide +kernel
theorem d_M_again_43 : decode b_M_again 43 = .ok (.getfield 34, 3) := by decide +kernel
theorem d_M_again_46 : decode b_M_again 46 = .ok (.bipush 57, 2) := by decide +kernel
theorem d_M_again_48 : decode b_M_again 48 = .ok (.iload_n 1, 1) := by decide +kernel
theorem d_M_again_49 : decode b_M_again 49 = .ok (.imul, 1) := by decide +kernel
theorem d_M_again_50 : decode b_M_again 50 = .ok (.iload_n 2, 1) := by decide +kernel
theorem d_M_again_51 : decode b_M_again 51 = .ok (.iadd, 1) := by decide +kernel
theorem d_M_again_52 : decode b_M_again 52 = .ok (.iaload, 1) := by decide +kernel
theorem d_M_again_53 : decode b_M_again 53 = .ok (.iastore, 1) := by decide +kernel
theorem d_M_again_54 : decode b_M_again 54 = .ok (.iinc 2 1, 3) := by decide +kernel
theorem d_M_again_57 : decode b_M_again 57 = .ok (.goto (-26), 3) := by decide +kernel
theorem d_M_again_60 : decode b_M_again 60 = .ok (.aload_n 0, 1) := by decide +kernel
theorem d_M_again_61 : decode b_M_again 61 = .ok (.iconst 0, 1) := by decide +kernel
theorem d_M_again_62 : decode b_M_again 62 = .ok (.putfield 98, 3) := by decide +kernel
theorem d_M_again_65 : decode b_M_again 65 = .ok (.aload_n 0, 1) := by decide +kernel
theorem d_M_again_66 : decode b_M_again 66 = .ok (.getfield 25, 3) := by decide +kernel
theorem d_M_again_69 : decode b_M_again 69 = .ok (.bipush 20, 2) := by decide +kernel
theorem d_M_again_71 : decode b_M_again 71 = .ok (.iaload, 1) := by decide +kernel
theorem d_M_again_72 : decode b_M_again 72 = .ok (.ireturn, 1) := by decide +kernel
end
section
/-! The law: the same. -/
theorem d_L_law_0 : decode code 0 = .ok (.new 7, 3) := by decide +kernel
theorem d_L_law_3 : decode code 3 = .ok (.dup, 1) := by decide +kernel
theorem d_L_law_4 : decode code 4 = .ok (.invokespecial 9, 3) := by decide +kernel
theorem d_L_law_7 : decode code 7 = .ok (.astore_n 1, 1) := by decide +kernel
theorem d_L_law_8 : decode code 8 = .ok (.new 10, 3) := by decide +kernel
theorem d_L_law_11 : decode code 11 = .ok (.dup, 1) := by decide +kernel
theorem d_L_law_12 : decode code 12 = .ok (.invokespecial 12, 3) := by decide +kernel
theorem d_L_law_15 : decode code 15 = .ok (.astore_n 2, 1) := by decide +kernel
theorem d_L_law_16 : decode code 16 = .ok (.iconst 0, 1) := by decide +kernel
theorem d_L_law_17 : decode code 17 = .ok (.istore_n 3, 1) := by decide +kernel
theorem d_L_law_18 : decode code 18 = .ok (.iload_n 3, 1) := by decide +kernel
theorem d_L_law_19 : decode code 19 = .ok (.aload_n 0, 1) := by decide +kernel
theorem d_L_law_20 : decode code 20 = .ok (.arraylength, 1) := by decide +kernel
theorem d_L_law_21 : decode code 21 = .ok (.bipush 6, 2) := by decide +kernel
theorem d_L_law_23 : decode code 23 = .ok (.isub, 1) := by decide +kernel
theorem d_L_law_24 : decode code 24 = .ok (.if_icmp .gt 1110, 3) := by decide +kernel
theorem d_L_law_27 : decode code 27 = .ok (.aload_n 0, 1) := by decide +kernel
theorem d_L_law_28 : decode code 28 = .ok (.iload_n 3, 1) := by decide +kernel
theorem d_L_law_29 : decode code 29 = .ok (.iaload, 1) := by decide +kernel
theorem d_L_law_30 : decode code 30 = .ok (.bipush 31, 2) := by decide +kernel
theorem d_L_law_32 : decode code 32 = .ok (.iand, 1) := by decide +kernel
theorem d_L_law_33 : decode code 33 = .ok (.tableswitch 1095 0 30 #[139, 162, 175, 188, 201, 224, 257, 290, 313, 346, 379, 402, 435, 458, 471, 494, 517, 540, 563, 606, 619, 702, 735, 758, 771, 830, 893, 972, 1026, 1049, 1072], 139) := by decide +kernel
theorem d_L_law_172 : decode code 172 = .ok (.aload_n 1, 1) := by decide +kernel
theorem d_L_law_173 : decode code 173 = .ok (.aload_n 0, 1) := by decide +kernel
theorem d_L_law_174 : decode code 174 = .ok (.iload_n 3, 1) := by decide +kernel
theorem d_L_law_175 : decode code 175 = .ok (.iconst 1, 1) := by decide +kernel
theorem d_L_law_176 : decode code 176 = .ok (.iadd, 1) := by decide +kernel
theorem d_L_law_177 : decode code 177 = .ok (.iaload, 1) := by decide +kernel
theorem d_L_law_178 : decode code 178 = .ok (.invokevirtual 13, 3) := by decide +kernel
theorem d_L_law_181 : decode code 181 = .ok (.aload_n 2, 1) := by decide +kernel
theorem d_L_law_182 : decode code 182 = .ok (.aload_n 0, 1) := by decide +kernel
theorem d_L_law_183 : decode code 183 = .ok (.iload_n 3, 1) := by decide +kernel
theorem d_L_law_184 : decode code 184 = .ok (.iconst 1, 1) := by decide +kernel
theorem d_L_law_185 : decode code 185 = .ok (.iadd, 1) := by decide +kernel
theorem d_L_law_186 : decode code 186 = .ok (.iaload, 1) := by decide +kernel
theorem d_L_law_187 : decode code 187 = .ok (.invokevirtual 17, 3) := by decide +kernel
theorem d_L_law_190 : decode code 190 = .ok (.if_icmp .eq 938, 3) := by decide +kernel
theorem d_L_law_193 : decode code 193 = .ok (.iconst 0, 1) := by decide +kernel
theorem d_L_law_194 : decode code 194 = .ok (.ireturn, 1) := by decide +kernel
theorem d_L_law_195 : decode code 195 = .ok (.aload_n 1, 1) := by decide +kernel
theorem d_L_law_196 : decode code 196 = .ok (.invokevirtual 18, 3) := by decide +kernel
theorem d_L_law_199 : decode code 199 = .ok (.aload_n 2, 1) := by decide +kernel
theorem d_L_law_200 : decode code 200 = .ok (.invokevirtual 22, 3) := by decide +kernel
theorem d_L_law_203 : decode code 203 = .ok (.if_icmp .eq 925, 3) := by decide +kernel
theorem d_L_law_206 : decode code 206 = .ok (.iconst 0, 1) := by decide +kernel
theorem d_L_law_207 : decode code 207 = .ok (.ireturn, 1) := by decide +kernel
theorem d_L_law_208 : decode code 208 = .ok (.aload_n 1, 1) := by decide +kernel
theorem d_L_law_209 : decode code 209 = .ok (.invokevirtual 23, 3) := by decide +kernel
theorem d_L_law_212 : decode code 212 = .ok (.aload_n 2, 1) := by decide +kernel
theorem d_L_law_213 : decode code 213 = .ok (.invokevirtual 26, 3) := by decide +kernel
theorem d_L_law_216 : decode code 216 = .ok (.if_icmp .eq 912, 3) := by decide +kernel
theorem d_L_law_219 : decode code 219 = .ok (.iconst 0, 1) := by decide +kernel
theorem d_L_law_220 : decode code 220 = .ok (.ireturn, 1) := by decide +kernel
theorem d_L_law_221 : decode code 221 = .ok (.aload_n 1, 1) := by decide +kernel
theorem d_L_law_222 : decode code 222 = .ok (.invokevirtual 27, 3) := by decide +kernel
theorem d_L_law_225 : decode code 225 = .ok (.aload_n 2, 1) := by decide +kernel
theorem d_L_law_226 : decode code 226 = .ok (.invokevirtual 30, 3) := by decide +kernel
theorem d_L_law_229 : decode code 229 = .ok (.if_icmp .eq 899, 3) := by decide +kernel
theorem d_L_law_232 : decode code 232 = .ok (.iconst 0, 1) := by decide +kernel
theorem d_L_law_233 : decode code 233 = .ok (.ireturn, 1) := by decide +kernel
theorem d_L_law_234 : decode code 234 = .ok (.aload_n 1, 1) := by decide +kernel
theorem d_L_law_235 : decode code 235 = .ok (.aload_n 0, 1) := by decide +kernel
theorem d_L_law_236 : decode code 236 = .ok (.iload_n 3, 1) := by decide +kernel
theorem d_L_law_237 : decode code 237 = .ok (.iconst 1, 1) := by decide +kernel
theorem d_L_law_238 : decode code 238 = .ok (.iadd, 1) := by decide +kernel
theorem d_L_law_239 : decode code 239 = .ok (.iaload, 1) := by decide +kernel
theorem d_L_law_240 : decode code 240 = .ok (.invokevirtual 31, 3) := by decide +kernel
theorem d_L_law_243 : decode code 243 = .ok (.aload_n 2, 1) := by decide +kernel
theorem d_L_law_244 : decode code 244 = .ok (.aload_n 0, 1) := by decide +kernel
theorem d_L_law_245 : decode code 245 = .ok (.iload_n 3, 1) := by decide +kernel
theorem d_L_law_246 : decode code 246 = .ok (.iconst 1, 1) := by decide +kernel
theorem d_L_law_247 : decode code 247 = .ok (.iadd, 1) := by decide +kernel
theorem d_L_law_248 : decode code 248 = .ok (.iaload, 1) := by decide +kernel
theorem d_L_law_249 : decode code 249 = .ok (.invokevirtual 34, 3) := by decide +kernel
theorem d_L_law_252 : decode code 252 = .ok (.if_icmp .eq 876, 3) := by decide +kernel
theorem d_L_law_255 : decode code 255 = .ok (.iconst 0, 1) := by decide +kernel
theorem d_L_law_256 : decode code 256 = .ok (.ireturn, 1) := by decide +kernel
theorem d_L_law_257 : decode code 257 = .ok (.aload_n 1, 1) := by decide +kernel
theorem d_L_law_258 : decode code 258 = .ok (.aload_n 0, 1) := by decide +kernel
theorem d_L_law_259 : decode code 259 = .ok (.iload_n 3, 1) := by decide +kernel
theorem d_L_law_260 : decode code 260 = .ok (.iconst 1, 1) := by decide +kernel
theorem d_L_law_261 : decode code 261 = .ok (.iadd, 1) := by decide +kernel
theorem d_L_law_262 : decode code 262 = .ok (.iaload, 1) := by decide +kernel
theorem d_L_law_263 : decode code 263 = .ok (.aload_n 0, 1) := by decide +kernel
theorem d_L_law_264 : decode code 264 = .ok (.iload_n 3, 1) := by decide +kernel
theorem d_L_law_265 : decode code 265 = .ok (.iconst 2, 1) := by decide +kernel
theorem d_L_law_266 : decode code 266 = .ok (.iadd, 1) := by decide +kernel
theorem d_L_law_267 : decode code 267 = .ok (.iaload, 1) := by decide +kernel
theorem d_L_law_268 : decode code 268 = .ok (.invokevirtual 35, 3) := by decide +kernel
theorem d_L_law_271 : decode code 271 = .ok (.aload_n 2, 1) := by decide +kernel
theorem d_L_law_272 : decode code 272 = .ok (.aload_n 0, 1) := by decide +kernel
theorem d_L_law_273 : decode code 273 = .ok (.iload_n 3, 1) := by decide +kernel
theorem d_L_law_274 : decode code 274 = .ok (.iconst 1, 1) := by decide +kernel
theorem d_L_law_275 : decode code 275 = .ok (.iadd, 1) := by decide +kernel
theorem d_L_law_276 : decode code 276 = .ok (.iaload, 1) := by decide +kernel
theorem d_L_law_277 : decode code 277 = .ok (.aload_n 0, 1) := by decide +kernel
theorem d_L_law_278 : decode code 278 = .ok (.iload_n 3, 1) := by decide +kernel
theorem d_L_law_279 : decode code 279 = .ok (.iconst 2, 1) := by decide +kernel
theorem d_L_law_280 : decode code 280 = .ok (.iadd, 1) := by decide +kernel
theorem d_L_law_281 : decode code 281 = .ok (.iaload, 1) := by decide +kernel
theorem d_L_law_282 : decode code 282 = .ok (.invokevirtual 39, 3) := by decide +kernel
theorem d_L_law_285 : decode code 285 = .ok (.if_icmp .eq 843, 3) := by decide +kernel
theorem d_L_law_288 : decode code 288 = .ok (.iconst 0, 1) := by decide +kernel
theorem d_L_law_289 : decode code 289 = .ok (.ireturn, 1) := by decide +kernel
theorem d_L_law_290 : decode code 290 = .ok (.aload_n 1, 1) := by decide +kernel
theorem d_L_law_291 : decode code 291 = .ok (.aload_n 0, 1) := by decide +kernel
theorem d_L_law_292 : decode code 292 = .ok (.iload_n 3, 1) := by decide +kernel
theorem d_L_law_293 : decode code 293 = .ok (.iconst 1, 1) := by decide +kernel
theorem d_L_law_294 : decode code 294 = .ok (.iadd, 1) := by decide +kernel
theorem d_L_law_295 : decode code 295 = .ok (.iaload, 1) := by decide +kernel
theorem d_L_law_296 : decode code 296 = .ok (.aload_n 0, 1) := by decide +kernel
theorem d_L_law_297 : decode code 297 = .ok (.iload_n 3, 1) := by decide +kernel
theorem d_L_law_298 : decode code 298 = .ok (.iconst 2, 1) := by decide +kernel
theorem d_L_law_299 : decode code 299 = .ok (.iadd, 1) := by decide +kernel
theorem d_L_law_300 : decode code 300 = .ok (.iaload, 1) := by decide +kernel
theorem d_L_law_301 : decode code 301 = .ok (.invokevirtual 40, 3) := by decide +kernel
theorem d_L_law_304 : decode code 304 = .ok (.aload_n 2, 1) := by decide +kernel
theorem d_L_law_305 : decode code 305 = .ok (.aload_n 0, 1) := by decide +kernel
theorem d_L_law_306 : decode code 306 = .ok (.iload_n 3, 1) := by decide +kernel
theorem d_L_law_307 : decode code 307 = .ok (.iconst 1, 1) := by decide +kernel
theorem d_L_law_308 : decode code 308 = .ok (.iadd, 1) := by decide +kernel
theorem d_L_law_309 : decode code 309 = .ok (.iaload, 1) := by decide +kernel
theorem d_L_law_310 : decode code 310 = .ok (.aload_n 0, 1) := by decide +kernel
theorem d_L_law_311 : decode code 311 = .ok (.iload_n 3, 1) := by decide +kernel
theorem d_L_law_312 : decode code 312 = .ok (.iconst 2, 1) := by decide +kernel
theorem d_L_law_313 : decode code 313 = .ok (.iadd, 1) := by decide +kernel
theorem d_L_law_314 : decode code 314 = .ok (.iaload, 1) := by decide +kernel
theorem d_L_law_315 : decode code 315 = .ok (.invokevirtual 43, 3) := by decide +kernel
theorem d_L_law_318 : decode code 318 = .ok (.if_icmp .eq 810, 3) := by decide +kernel
theorem d_L_law_321 : decode code 321 = .ok (.iconst 0, 1) := by decide +kernel
theorem d_L_law_322 : decode code 322 = .ok (.ireturn, 1) := by decide +kernel
theorem d_L_law_323 : decode code 323 = .ok (.aload_n 1, 1) := by decide +kernel
theorem d_L_law_324 : decode code 324 = .ok (.aload_n 0, 1) := by decide +kernel
theorem d_L_law_325 : decode code 325 = .ok (.iload_n 3, 1) := by decide +kernel
theorem d_L_law_326 : decode code 326 = .ok (.iconst 1, 1) := by decide +kernel
theorem d_L_law_327 : decode code 327 = .ok (.iadd, 1) := by decide +kernel
theorem d_L_law_328 : decode code 328 = .ok (.iaload, 1) := by decide +kernel
theorem d_L_law_329 : decode code 329 = .ok (.invokevirtual 44, 3) := by decide +kernel
theorem d_L_law_332 : decode code 332 = .ok (.aload_n 2, 1) := by decide +kernel
theorem d_L_law_333 : decode code 333 = .ok (.aload_n 0, 1) := by decide +kernel
theorem d_L_law_334 : decode code 334 = .ok (.iload_n 3, 1) := by decide +kernel
theorem d_L_law_335 : decode code 335 = .ok (.iconst 1, 1) := by decide +kernel
theorem d_L_law_336 : decode code 336 = .ok (.iadd, 1) := by decide +kernel
theorem d_L_law_337 : decode code 337 = .ok (.iaload, 1) := by decide +kernel
theorem d_L_law_338 : decode code 338 = .ok (.invokevirtual 47, 3) := by decide +kernel
theorem d_L_law_341 : decode code 341 = .ok (.if_icmp .eq 787, 3) := by decide +kernel
theorem d_L_law_344 : decode code 344 = .ok (.iconst 0, 1) := by decide +kernel
theorem d_L_law_345 : decode code 345 = .ok (.ireturn, 1) := by decide +kernel
theorem d_L_law_346 : decode code 346 = .ok (.aload_n 1, 1) := by decide +kernel
theorem d_L_law_347 : decode code 347 = .ok (.aload_n 0, 1) := by decide +kernel
theorem d_L_law_348 : decode code 348 = .ok (.iload_n 3, 1) := by decide +kernel
theorem d_L_law_349 : decode code 349 = .ok (.iconst 1, 1) := by decide +kernel
theorem d_L_law_350 : decode code 350 = .ok (.iadd, 1) := by decide +kernel
theorem d_L_law_351 : decode code 351 = .ok (.iaload, 1) := by decide +kernel
theorem d_L_law_352 : decode code 352 = .ok (.aload_n 0, 1) := by decide +kernel
theorem d_L_law_353 : decode code 353 = .ok (.iload_n 3, 1) := by decide +kernel
theorem d_L_law_354 : decode code 354 = .ok (.iconst 2, 1) := by decide +kernel
theorem d_L_law_355 : decode code 355 = .ok (.iadd, 1) := by decide +kernel
theorem d_L_law_356 : decode code 356 = .ok (.iaload, 1) := by decide +kernel
theorem d_L_law_357 : decode code 357 = .ok (.invokevirtual 48, 3) := by decide +kernel
theorem d_L_law_360 : decode code 360 = .ok (.aload_n 2, 1) := by decide +kernel
theorem d_L_law_361 : decode code 361 = .ok (.aload_n 0, 1) := by decide +kernel
theorem d_L_law_362 : decode code 362 = .ok (.iload_n 3, 1) := by decide +kernel
theorem d_L_law_363 : decode code 363 = .ok (.iconst 1, 1) := by decide +kernel
theorem d_L_law_364 : decode code 364 = .ok (.iadd, 1) := by decide +kernel
theorem d_L_law_365 : decode code 365 = .ok (.iaload, 1) := by decide +kernel
theorem d_L_law_366 : decode code 366 = .ok (.aload_n 0, 1) := by decide +kernel
theorem d_L_law_367 : decode code 367 = .ok (.iload_n 3, 1) := by decide +kernel
theorem d_L_law_368 : decode code 368 = .ok (.iconst 2, 1) := by decide +kernel
theorem d_L_law_369 : decode code 369 = .ok (.iadd, 1) := by decide +kernel
theorem d_L_law_370 : decode code 370 = .ok (.iaload, 1) := by decide +kernel
theorem d_L_law_371 : decode code 371 = .ok (.invokevirtual 51, 3) := by decide +kernel
theorem d_L_law_374 : decode code 374 = .ok (.if_icmp .eq 754, 3) := by decide +kernel
theorem d_L_law_377 : decode code 377 = .ok (.iconst 0, 1) := by decide +kernel
theorem d_L_law_378 : decode code 378 = .ok (.ireturn, 1) := by decide +kernel
theorem d_L_law_379 : decode code 379 = .ok (.aload_n 1, 1) := by decide +kernel
theorem d_L_law_380 : decode code 380 = .ok (.aload_n 0, 1) := by decide +kernel
theorem d_L_law_381 : decode code 381 = .ok (.iload_n 3, 1) := by decide +kernel
theorem d_L_law_382 : decode code 382 = .ok (.iconst 1, 1) := by decide +kernel
theorem d_L_law_383 : decode code 383 = .ok (.iadd, 1) := by decide +kernel
theorem d_L_law_384 : decode code 384 = .ok (.iaload, 1) := by decide +kernel
theorem d_L_law_385 : decode code 385 = .ok (.aload_n 0, 1) := by decide +kernel
theorem d_L_law_386 : decode code 386 = .ok (.iload_n 3, 1) := by decide +kernel
theorem d_L_law_387 : decode code 387 = .ok (.iconst 2, 1) := by decide +kernel
theorem d_L_law_388 : decode code 388 = .ok (.iadd, 1) := by decide +kernel
theorem d_L_law_389 : decode code 389 = .ok (.iaload, 1) := by decide +kernel
theorem d_L_law_390 : decode code 390 = .ok (.invokevirtual 52, 3) := by decide +kernel
theorem d_L_law_393 : decode code 393 = .ok (.aload_n 2, 1) := by decide +kernel
theorem d_L_law_394 : decode code 394 = .ok (.aload_n 0, 1) := by decide +kernel
theorem d_L_law_395 : decode code 395 = .ok (.iload_n 3, 1) := by decide +kernel
theorem d_L_law_396 : decode code 396 = .ok (.iconst 1, 1) := by decide +kernel
theorem d_L_law_397 : decode code 397 = .ok (.iadd, 1) := by decide +kernel
theorem d_L_law_398 : decode code 398 = .ok (.iaload, 1) := by decide +kernel
theorem d_L_law_399 : decode code 399 = .ok (.aload_n 0, 1) := by decide +kernel
theorem d_L_law_400 : decode code 400 = .ok (.iload_n 3, 1) := by decide +kernel
theorem d_L_law_401 : decode code 401 = .ok (.iconst 2, 1) := by decide +kernel
theorem d_L_law_402 : decode code 402 = .ok (.iadd, 1) := by decide +kernel
theorem d_L_law_403 : decode code 403 = .ok (.iaload, 1) := by decide +kernel
theorem d_L_law_404 : decode code 404 = .ok (.invokevirtual 55, 3) := by decide +kernel
theorem d_L_law_407 : decode code 407 = .ok (.if_icmp .eq 721, 3) := by decide +kernel
theorem d_L_law_410 : decode code 410 = .ok (.iconst 0, 1) := by decide +kernel
theorem d_L_law_411 : decode code 411 = .ok (.ireturn, 1) := by decide +kernel
theorem d_L_law_412 : decode code 412 = .ok (.aload_n 1, 1) := by decide +kernel
theorem d_L_law_413 : decode code 413 = .ok (.aload_n 0, 1) := by decide +kernel
theorem d_L_law_414 : decode code 414 = .ok (.iload_n 3, 1) := by decide +kernel
theorem d_L_law_415 : decode code 415 = .ok (.iconst 1, 1) := by decide +kernel
theorem d_L_law_416 : decode code 416 = .ok (.iadd, 1) := by decide +kernel
theorem d_L_law_417 : decode code 417 = .ok (.iaload, 1) := by decide +kernel
theorem d_L_law_418 : decode code 418 = .ok (.invokevirtual 56, 3) := by decide +kernel
theorem d_L_law_421 : decode code 421 = .ok (.aload_n 2, 1) := by decide +kernel
theorem d_L_law_422 : decode code 422 = .ok (.aload_n 0, 1) := by decide +kernel
theorem d_L_law_423 : decode code 423 = .ok (.iload_n 3, 1) := by decide +kernel
theorem d_L_law_424 : decode code 424 = .ok (.iconst 1, 1) := by decide +kernel
theorem d_L_law_425 : decode code 425 = .ok (.iadd, 1) := by decide +kernel
theorem d_L_law_426 : decode code 426 = .ok (.iaload, 1) := by decide +kernel
theorem d_L_law_427 : decode code 427 = .ok (.invokevirtual 59, 3) := by decide +kernel
theorem d_L_law_430 : decode code 430 = .ok (.if_icmp .eq 698, 3) := by decide +kernel
theorem d_L_law_433 : decode code 433 = .ok (.iconst 0, 1) := by decide +kernel
theorem d_L_law_434 : decode code 434 = .ok (.ireturn, 1) := by decide +kernel
theorem d_L_law_435 : decode code 435 = .ok (.aload_n 1, 1) := by decide +kernel
theorem d_L_law_436 : decode code 436 = .ok (.aload_n 0, 1) := by decide +kernel
theorem d_L_law_437 : decode code 437 = .ok (.iload_n 3, 1) := by decide +kernel
theorem d_L_law_438 : decode code 438 = .ok (.iconst 1, 1) := by decide +kernel
theorem d_L_law_439 : decode code 439 = .ok (.iadd, 1) := by decide +kernel
theorem d_L_law_440 : decode code 440 = .ok (.iaload, 1) := by decide +kernel
theorem d_L_law_441 : decode code 441 = .ok (.aload_n 0, 1) := by decide +kernel
theorem d_L_law_442 : decode code 442 = .ok (.iload_n 3, 1) := by decide +kernel
theorem d_L_law_443 : decode code 443 = .ok (.iconst 2, 1) := by decide +kernel
theorem d_L_law_444 : decode code 444 = .ok (.iadd, 1) := by decide +kernel
theorem d_L_law_445 : decode code 445 = .ok (.iaload, 1) := by decide +kernel
theorem d_L_law_446 : decode code 446 = .ok (.invokevirtual 60, 3) := by decide +kernel
theorem d_L_law_449 : decode code 449 = .ok (.aload_n 2, 1) := by decide +kernel
theorem d_L_law_450 : decode code 450 = .ok (.aload_n 0, 1) := by decide +kernel
theorem d_L_law_451 : decode code 451 = .ok (.iload_n 3, 1) := by decide +kernel
theorem d_L_law_452 : decode code 452 = .ok (.iconst 1, 1) := by decide +kernel
theorem d_L_law_453 : decode code 453 = .ok (.iadd, 1) := by decide +kernel
theorem d_L_law_454 : decode code 454 = .ok (.iaload, 1) := by decide +kernel
theorem d_L_law_455 : decode code 455 = .ok (.aload_n 0, 1) := by decide +kernel
theorem d_L_law_456 : decode code 456 = .ok (.iload_n 3, 1) := by decide +kernel
theorem d_L_law_457 : decode code 457 = .ok (.iconst 2, 1) := by decide +kernel
theorem d_L_law_458 : decode code 458 = .ok (.iadd, 1) := by decide +kernel
theorem d_L_law_459 : decode code 459 = .ok (.iaload, 1) := by decide +kernel
theorem d_L_law_460 : decode code 460 = .ok (.invokevirtual 63, 3) := by decide +kernel
theorem d_L_law_463 : decode code 463 = .ok (.if_icmp .eq 665, 3) := by decide +kernel
theorem d_L_law_466 : decode code 466 = .ok (.iconst 0, 1) := by decide +kernel
theorem d_L_law_467 : decode code 467 = .ok (.ireturn, 1) := by decide +kernel
theorem d_L_law_468 : decode code 468 = .ok (.aload_n 1, 1) := by decide +kernel
theorem d_L_law_469 : decode code 469 = .ok (.aload_n 0, 1) := by decide +kernel
theorem d_L_law_470 : decode code 470 = .ok (.iload_n 3, 1) := by decide +kernel
theorem d_L_law_471 : decode code 471 = .ok (.iconst 1, 1) := by decide +kernel
theorem d_L_law_472 : decode code 472 = .ok (.iadd, 1) := by decide +kernel
theorem d_L_law_473 : decode code 473 = .ok (.iaload, 1) := by decide +kernel
theorem d_L_law_474 : decode code 474 = .ok (.invokevirtual 64, 3) := by decide +kernel
theorem d_L_law_477 : decode code 477 = .ok (.aload_n 2, 1) := by decide +kernel
theorem d_L_law_478 : decode code 478 = .ok (.aload_n 0, 1) := by decide +kernel
theorem d_L_law_479 : decode code 479 = .ok (.iload_n 3, 1) := by decide +kernel
theorem d_L_law_480 : decode code 480 = .ok (.iconst 1, 1) := by decide +kernel
theorem d_L_law_481 : decode code 481 = .ok (.iadd, 1) := by decide +kernel
theorem d_L_law_482 : decode code 482 = .ok (.iaload, 1) := by decide +kernel
theorem d_L_law_483 : decode code 483 = .ok (.invokevirtual 67, 3) := by decide +kernel
theorem d_L_law_486 : decode code 486 = .ok (.if_icmp .eq 642, 3) := by decide +kernel
theorem d_L_law_489 : decode code 489 = .ok (.iconst 0, 1) := by decide +kernel
theorem d_L_law_490 : decode code 490 = .ok (.ireturn, 1) := by decide +kernel
theorem d_L_law_491 : decode code 491 = .ok (.aload_n 1, 1) := by decide +kernel
theorem d_L_law_492 : decode code 492 = .ok (.invokevirtual 68, 3) := by decide +kernel
theorem d_L_law_495 : decode code 495 = .ok (.aload_n 2, 1) := by decide +kernel
theorem d_L_law_496 : decode code 496 = .ok (.invokevirtual 71, 3) := by decide +kernel
theorem d_L_law_499 : decode code 499 = .ok (.if_icmp .eq 629, 3) := by decide +kernel
theorem d_L_law_502 : decode code 502 = .ok (.iconst 0, 1) := by decide +kernel
theorem d_L_law_503 : decode code 503 = .ok (.ireturn, 1) := by decide +kernel
theorem d_L_law_504 : decode code 504 = .ok (.aload_n 1, 1) := by decide +kernel
theorem d_L_law_505 : decode code 505 = .ok (.aload_n 0, 1) := by decide +kernel
theorem d_L_law_506 : decode code 506 = .ok (.iload_n 3, 1) := by decide +kernel
theorem d_L_law_507 : decode code 507 = .ok (.iconst 1, 1) := by decide +kernel
theorem d_L_law_508 : decode code 508 = .ok (.iadd, 1) := by decide +kernel
theorem d_L_law_509 : decode code 509 = .ok (.iaload, 1) := by decide +kernel
theorem d_L_law_510 : decode code 510 = .ok (.invokevirtual 72, 3) := by decide +kernel
theorem d_L_law_513 : decode code 513 = .ok (.aload_n 2, 1) := by decide +kernel
theorem d_L_law_514 : decode code 514 = .ok (.aload_n 0, 1) := by decide +kernel
theorem d_L_law_515 : decode code 515 = .ok (.iload_n 3, 1) := by decide +kernel
theorem d_L_law_516 : decode code 516 = .ok (.iconst 1, 1) := by decide +kernel
theorem d_L_law_517 : decode code 517 = .ok (.iadd, 1) := by decide +kernel
theorem d_L_law_518 : decode code 518 = .ok (.iaload, 1) := by decide +kernel
theorem d_L_law_519 : decode code 519 = .ok (.invokevirtual 75, 3) := by decide +kernel
theorem d_L_law_522 : decode code 522 = .ok (.if_icmp .eq 606, 3) := by decide +kernel
theorem d_L_law_525 : decode code 525 = .ok (.iconst 0, 1) := by decide +kernel
theorem d_L_law_526 : decode code 526 = .ok (.ireturn, 1) := by decide +kernel
theorem d_L_law_527 : decode code 527 = .ok (.aload_n 1, 1) := by decide +kernel
theorem d_L_law_528 : decode code 528 = .ok (.aload_n 0, 1) := by decide +kernel
theorem d_L_law_529 : decode code 529 = .ok (.iload_n 3, 1) := by decide +kernel
theorem d_L_law_530 : decode code 530 = .ok (.iconst 1, 1) := by decide +kernel
theorem d_L_law_531 : decode code 531 = .ok (.iadd, 1) := by decide +kernel
theorem d_L_law_532 : decode code 532 = .ok (.iaload, 1) := by decide +kernel
theorem d_L_law_533 : decode code 533 = .ok (.invokevirtual 76, 3) := by decide +kernel
theorem d_L_law_536 : decode code 536 = .ok (.aload_n 2, 1) := by decide +kernel
theorem d_L_law_537 : decode code 537 = .ok (.aload_n 0, 1) := by decide +kernel
theorem d_L_law_538 : decode code 538 = .ok (.iload_n 3, 1) := by decide +kernel
theorem d_L_law_539 : decode code 539 = .ok (.iconst 1, 1) := by decide +kernel
theorem d_L_law_540 : decode code 540 = .ok (.iadd, 1) := by decide +kernel
theorem d_L_law_541 : decode code 541 = .ok (.iaload, 1) := by decide +kernel
theorem d_L_law_542 : decode code 542 = .ok (.invokevirtual 79, 3) := by decide +kernel
theorem d_L_law_545 : decode code 545 = .ok (.if_icmp .eq 583, 3) := by decide +kernel
theorem d_L_law_548 : decode code 548 = .ok (.iconst 0, 1) := by decide +kernel
theorem d_L_law_549 : decode code 549 = .ok (.ireturn, 1) := by decide +kernel
theorem d_L_law_550 : decode code 550 = .ok (.aload_n 1, 1) := by decide +kernel
theorem d_L_law_551 : decode code 551 = .ok (.aload_n 0, 1) := by decide +kernel
theorem d_L_law_552 : decode code 552 = .ok (.iload_n 3, 1) := by decide +kernel
theorem d_L_law_553 : decode code 553 = .ok (.iconst 1, 1) := by decide +kernel
theorem d_L_law_554 : decode code 554 = .ok (.iadd, 1) := by decide +kernel
theorem d_L_law_555 : decode code 555 = .ok (.iaload, 1) := by decide +kernel
theorem d_L_law_556 : decode code 556 = .ok (.invokevirtual 80, 3) := by decide +kernel
theorem d_L_law_559 : decode code 559 = .ok (.aload_n 2, 1) := by decide +kernel
theorem d_L_law_560 : decode code 560 = .ok (.aload_n 0, 1) := by decide +kernel
theorem d_L_law_561 : decode code 561 = .ok (.iload_n 3, 1) := by decide +kernel
theorem d_L_law_562 : decode code 562 = .ok (.iconst 1, 1) := by decide +kernel
theorem d_L_law_563 : decode code 563 = .ok (.iadd, 1) := by decide +kernel
theorem d_L_law_564 : decode code 564 = .ok (.iaload, 1) := by decide +kernel
theorem d_L_law_565 : decode code 565 = .ok (.invokevirtual 83, 3) := by decide +kernel
theorem d_L_law_568 : decode code 568 = .ok (.if_icmp .eq 560, 3) := by decide +kernel
theorem d_L_law_571 : decode code 571 = .ok (.iconst 0, 1) := by decide +kernel
theorem d_L_law_572 : decode code 572 = .ok (.ireturn, 1) := by decide +kernel
theorem d_L_law_573 : decode code 573 = .ok (.aload_n 1, 1) := by decide +kernel
theorem d_L_law_574 : decode code 574 = .ok (.aload_n 0, 1) := by decide +kernel
theorem d_L_law_575 : decode code 575 = .ok (.iload_n 3, 1) := by decide +kernel
theorem d_L_law_576 : decode code 576 = .ok (.iconst 1, 1) := by decide +kernel
theorem d_L_law_577 : decode code 577 = .ok (.iadd, 1) := by decide +kernel
theorem d_L_law_578 : decode code 578 = .ok (.iaload, 1) := by decide +kernel
theorem d_L_law_579 : decode code 579 = .ok (.invokevirtual 84, 3) := by decide +kernel
theorem d_L_law_582 : decode code 582 = .ok (.aload_n 2, 1) := by decide +kernel
theorem d_L_law_583 : decode code 583 = .ok (.aload_n 0, 1) := by decide +kernel
theorem d_L_law_584 : decode code 584 = .ok (.iload_n 3, 1) := by decide +kernel
theorem d_L_law_585 : decode code 585 = .ok (.iconst 1, 1) := by decide +kernel
theorem d_L_law_586 : decode code 586 = .ok (.iadd, 1) := by decide +kernel
theorem d_L_law_587 : decode code 587 = .ok (.iaload, 1) := by decide +kernel
theorem d_L_law_588 : decode code 588 = .ok (.invokevirtual 87, 3) := by decide +kernel
theorem d_L_law_591 : decode code 591 = .ok (.if_icmp .eq 537, 3) := by decide +kernel
theorem d_L_law_594 : decode code 594 = .ok (.iconst 0, 1) := by decide +kernel
theorem d_L_law_595 : decode code 595 = .ok (.ireturn, 1) := by decide +kernel
theorem d_L_law_596 : decode code 596 = .ok (.aload_n 1, 1) := by decide +kernel
theorem d_L_law_597 : decode code 597 = .ok (.aload_n 0, 1) := by decide +kernel
theorem d_L_law_598 : decode code 598 = .ok (.iload_n 3, 1) := by decide +kernel
theorem d_L_law_599 : decode code 599 = .ok (.iconst 1, 1) := by decide +kernel
theorem d_L_law_600 : decode code 600 = .ok (.iadd, 1) := by decide +kernel
theorem d_L_law_601 : decode code 601 = .ok (.iaload, 1) := by decide +kernel
theorem d_L_law_602 : decode code 602 = .ok (.aload_n 0, 1) := by decide +kernel
theorem d_L_law_603 : decode code 603 = .ok (.iload_n 3, 1) := by decide +kernel
theorem d_L_law_604 : decode code 604 = .ok (.iconst 2, 1) := by decide +kernel
theorem d_L_law_605 : decode code 605 = .ok (.iadd, 1) := by decide +kernel
theorem d_L_law_606 : decode code 606 = .ok (.iaload, 1) := by decide +kernel
theorem d_L_law_607 : decode code 607 = .ok (.aload_n 0, 1) := by decide +kernel
theorem d_L_law_608 : decode code 608 = .ok (.iload_n 3, 1) := by decide +kernel
theorem d_L_law_609 : decode code 609 = .ok (.iconst 3, 1) := by decide +kernel
theorem d_L_law_610 : decode code 610 = .ok (.iadd, 1) := by decide +kernel
theorem d_L_law_611 : decode code 611 = .ok (.iaload, 1) := by decide +kernel
theorem d_L_law_612 : decode code 612 = .ok (.invokevirtual 88, 3) := by decide +kernel
theorem d_L_law_615 : decode code 615 = .ok (.aload_n 2, 1) := by decide +kernel
theorem d_L_law_616 : decode code 616 = .ok (.aload_n 0, 1) := by decide +kernel
theorem d_L_law_617 : decode code 617 = .ok (.iload_n 3, 1) := by decide +kernel
theorem d_L_law_618 : decode code 618 = .ok (.iconst 1, 1) := by decide +kernel
theorem d_L_law_619 : decode code 619 = .ok (.iadd, 1) := by decide +kernel
theorem d_L_law_620 : decode code 620 = .ok (.iaload, 1) := by decide +kernel
theorem d_L_law_621 : decode code 621 = .ok (.aload_n 0, 1) := by decide +kernel
theorem d_L_law_622 : decode code 622 = .ok (.iload_n 3, 1) := by decide +kernel
theorem d_L_law_623 : decode code 623 = .ok (.iconst 2, 1) := by decide +kernel
theorem d_L_law_624 : decode code 624 = .ok (.iadd, 1) := by decide +kernel
theorem d_L_law_625 : decode code 625 = .ok (.iaload, 1) := by decide +kernel
theorem d_L_law_626 : decode code 626 = .ok (.aload_n 0, 1) := by decide +kernel
theorem d_L_law_627 : decode code 627 = .ok (.iload_n 3, 1) := by decide +kernel
theorem d_L_law_628 : decode code 628 = .ok (.iconst 3, 1) := by decide +kernel
theorem d_L_law_629 : decode code 629 = .ok (.iadd, 1) := by decide +kernel
theorem d_L_law_630 : decode code 630 = .ok (.iaload, 1) := by decide +kernel
theorem d_L_law_631 : decode code 631 = .ok (.invokevirtual 92, 3) := by decide +kernel
theorem d_L_law_634 : decode code 634 = .ok (.if_icmp .eq 494, 3) := by decide +kernel
theorem d_L_law_637 : decode code 637 = .ok (.iconst 0, 1) := by decide +kernel
theorem d_L_law_638 : decode code 638 = .ok (.ireturn, 1) := by decide +kernel
theorem d_L_law_639 : decode code 639 = .ok (.aload_n 1, 1) := by decide +kernel
theorem d_L_law_640 : decode code 640 = .ok (.invokevirtual 93, 3) := by decide +kernel
theorem d_L_law_643 : decode code 643 = .ok (.aload_n 2, 1) := by decide +kernel
theorem d_L_law_644 : decode code 644 = .ok (.invokevirtual 96, 3) := by decide +kernel
theorem d_L_law_647 : decode code 647 = .ok (.if_icmp .eq 481, 3) := by decide +kernel
theorem d_L_law_650 : decode code 650 = .ok (.iconst 0, 1) := by decide +kernel
theorem d_L_law_651 : decode code 651 = .ok (.ireturn, 1) := by decide +kernel
theorem d_L_law_652 : decode code 652 = .ok (.aload_n 1, 1) := by decide +kernel
theorem d_L_law_653 : decode code 653 = .ok (.aload_n 0, 1) := by decide +kernel
theorem d_L_law_654 : decode code 654 = .ok (.iload_n 3, 1) := by decide +kernel
theorem d_L_law_655 : decode code 655 = .ok (.iconst 1, 1) := by decide +kernel
theorem d_L_law_656 : decode code 656 = .ok (.iadd, 1) := by decide +kernel
theorem d_L_law_657 : decode code 657 = .ok (.iaload, 1) := by decide +kernel
theorem d_L_law_658 : decode code 658 = .ok (.aload_n 0, 1) := by decide +kernel
theorem d_L_law_659 : decode code 659 = .ok (.iload_n 3, 1) := by decide +kernel
theorem d_L_law_660 : decode code 660 = .ok (.iconst 2, 1) := by decide +kernel
theorem d_L_law_661 : decode code 661 = .ok (.iadd, 1) := by decide +kernel
theorem d_L_law_662 : decode code 662 = .ok (.iaload, 1) := by decide +kernel
theorem d_L_law_663 : decode code 663 = .ok (.aload_n 0, 1) := by decide +kernel
theorem d_L_law_664 : decode code 664 = .ok (.iload_n 3, 1) := by decide +kernel
theorem d_L_law_665 : decode code 665 = .ok (.iconst 3, 1) := by decide +kernel
theorem d_L_law_666 : decode code 666 = .ok (.iadd, 1) := by decide +kernel
theorem d_L_law_667 : decode code 667 = .ok (.iaload, 1) := by decide +kernel
theorem d_L_law_668 : decode code 668 = .ok (.i2l, 1) := by decide +kernel
theorem d_L_law_669 : decode code 669 = .ok (.bipush 32, 2) := by decide +kernel
theorem d_L_law_671 : decode code 671 = .ok (.lshl, 1) := by decide +kernel
theorem d_L_law_672 : decode code 672 = .ok (.aload_n 0, 1) := by decide +kernel
theorem d_L_law_673 : decode code 673 = .ok (.iload_n 3, 1) := by decide +kernel
theorem d_L_law_674 : decode code 674 = .ok (.iconst 4, 1) := by decide +kernel
theorem d_L_law_675 : decode code 675 = .ok (.iadd, 1) := by decide +kernel
theorem d_L_law_676 : decode code 676 = .ok (.iaload, 1) := by decide +kernel
theorem d_L_law_677 : decode code 677 = .ok (.i2l, 1) := by decide +kernel
theorem d_L_law_678 : decode code 678 = .ok (.ldc2_w 97, 3) := by decide +kernel
theorem d_L_law_681 : decode code 681 = .ok (.land, 1) := by decide +kernel
theorem d_L_law_682 : decode code 682 = .ok (.lor, 1) := by decide +kernel
theorem d_L_law_683 : decode code 683 = .ok (.aload_n 0, 1) := by decide +kernel
theorem d_L_law_684 : decode code 684 = .ok (.iload_n 3, 1) := by decide +kernel
theorem d_L_law_685 : decode code 685 = .ok (.iconst 5, 1) := by decide +kernel
theorem d_L_law_686 : decode code 686 = .ok (.iadd, 1) := by decide +kernel
theorem d_L_law_687 : decode code 687 = .ok (.iaload, 1) := by decide +kernel
theorem d_L_law_688 : decode code 688 = .ok (.invokevirtual 99, 3) := by decide +kernel
theorem d_L_law_691 : decode code 691 = .ok (.aload_n 2, 1) := by decide +kernel
theorem d_L_law_692 : decode code 692 = .ok (.aload_n 0, 1) := by decide +kernel
theorem d_L_law_693 : decode code 693 = .ok (.iload_n 3, 1) := by decide +kernel
theorem d_L_law_694 : decode code 694 = .ok (.iconst 1, 1) := by decide +kernel
theorem d_L_law_695 : decode code 695 = .ok (.iadd, 1) := by decide +kernel
theorem d_L_law_696 : decode code 696 = .ok (.iaload, 1) := by decide +kernel
theorem d_L_law_697 : decode code 697 = .ok (.aload_n 0, 1) := by decide +kernel
theorem d_L_law_698 : decode code 698 = .ok (.iload_n 3, 1) := by decide +kernel
theorem d_L_law_699 : decode code 699 = .ok (.iconst 2, 1) := by decide +kernel
theorem d_L_law_700 : decode code 700 = .ok (.iadd, 1) := by decide +kernel
theorem d_L_law_701 : decode code 701 = .ok (.iaload, 1) := by decide +kernel
theorem d_L_law_702 : decode code 702 = .ok (.aload_n 0, 1) := by decide +kernel
theorem d_L_law_703 : decode code 703 = .ok (.iload_n 3, 1) := by decide +kernel
theorem d_L_law_704 : decode code 704 = .ok (.iconst 3, 1) := by decide +kernel
theorem d_L_law_705 : decode code 705 = .ok (.iadd, 1) := by decide +kernel
theorem d_L_law_706 : decode code 706 = .ok (.iaload, 1) := by decide +kernel
theorem d_L_law_707 : decode code 707 = .ok (.i2l, 1) := by decide +kernel
theorem d_L_law_708 : decode code 708 = .ok (.bipush 32, 2) := by decide +kernel
theorem d_L_law_710 : decode code 710 = .ok (.lshl, 1) := by decide +kernel
theorem d_L_law_711 : decode code 711 = .ok (.aload_n 0, 1) := by decide +kernel
theorem d_L_law_712 : decode code 712 = .ok (.iload_n 3, 1) := by decide +kernel
theorem d_L_law_713 : decode code 713 = .ok (.iconst 4, 1) := by decide +kernel
theorem d_L_law_714 : decode code 714 = .ok (.iadd, 1) := by decide +kernel
theorem d_L_law_715 : decode code 715 = .ok (.iaload, 1) := by decide +kernel
theorem d_L_law_716 : decode code 716 = .ok (.i2l, 1) := by decide +kernel
theorem d_L_law_717 : decode code 717 = .ok (.ldc2_w 97, 3) := by decide +kernel
theorem d_L_law_720 : decode code 720 = .ok (.land, 1) := by decide +kernel
theorem d_L_law_721 : decode code 721 = .ok (.lor, 1) := by decide +kernel
theorem d_L_law_722 : decode code 722 = .ok (.aload_n 0, 1) := by decide +kernel
theorem d_L_law_723 : decode code 723 = .ok (.iload_n 3, 1) := by decide +kernel
theorem d_L_law_724 : decode code 724 = .ok (.iconst 5, 1) := by decide +kernel
theorem d_L_law_725 : decode code 725 = .ok (.iadd, 1) := by decide +kernel
theorem d_L_law_726 : decode code 726 = .ok (.iaload, 1) := by decide +kernel
theorem d_L_law_727 : decode code 727 = .ok (.invokevirtual 103, 3) := by decide +kernel
theorem d_L_law_730 : decode code 730 = .ok (.if_icmp .eq 398, 3) := by decide +kernel
theorem d_L_law_733 : decode code 733 = .ok (.iconst 0, 1) := by decide +kernel
theorem d_L_law_734 : decode code 734 = .ok (.ireturn, 1) := by decide +kernel
theorem d_L_law_735 : decode code 735 = .ok (.aload_n 1, 1) := by decide +kernel
theorem d_L_law_736 : decode code 736 = .ok (.aload_n 0, 1) := by decide +kernel
theorem d_L_law_737 : decode code 737 = .ok (.iload_n 3, 1) := by decide +kernel
theorem d_L_law_738 : decode code 738 = .ok (.iconst 1, 1) := by decide +kernel
theorem d_L_law_739 : decode code 739 = .ok (.iadd, 1) := by decide +kernel
theorem d_L_law_740 : decode code 740 = .ok (.iaload, 1) := by decide +kernel
theorem d_L_law_741 : decode code 741 = .ok (.aload_n 0, 1) := by decide +kernel
theorem d_L_law_742 : decode code 742 = .ok (.iload_n 3, 1) := by decide +kernel
theorem d_L_law_743 : decode code 743 = .ok (.iconst 2, 1) := by decide +kernel
theorem d_L_law_744 : decode code 744 = .ok (.iadd, 1) := by decide +kernel
theorem d_L_law_745 : decode code 745 = .ok (.iaload, 1) := by decide +kernel
theorem d_L_law_746 : decode code 746 = .ok (.invokevirtual 104, 3) := by decide +kernel
theorem d_L_law_749 : decode code 749 = .ok (.aload_n 2, 1) := by decide +kernel
theorem d_L_law_750 : decode code 750 = .ok (.aload_n 0, 1) := by decide +kernel
theorem d_L_law_751 : decode code 751 = .ok (.iload_n 3, 1) := by decide +kernel
theorem d_L_law_752 : decode code 752 = .ok (.iconst 1, 1) := by decide +kernel
theorem d_L_law_753 : decode code 753 = .ok (.iadd, 1) := by decide +kernel
theorem d_L_law_754 : decode code 754 = .ok (.iaload, 1) := by decide +kernel
theorem d_L_law_755 : decode code 755 = .ok (.aload_n 0, 1) := by decide +kernel
theorem d_L_law_756 : decode code 756 = .ok (.iload_n 3, 1) := by decide +kernel
theorem d_L_law_757 : decode code 757 = .ok (.iconst 2, 1) := by decide +kernel
theorem d_L_law_758 : decode code 758 = .ok (.iadd, 1) := by decide +kernel
theorem d_L_law_759 : decode code 759 = .ok (.iaload, 1) := by decide +kernel
theorem d_L_law_760 : decode code 760 = .ok (.invokevirtual 107, 3) := by decide +kernel
theorem d_L_law_763 : decode code 763 = .ok (.if_icmp .eq 365, 3) := by decide +kernel
theorem d_L_law_766 : decode code 766 = .ok (.iconst 0, 1) := by decide +kernel
theorem d_L_law_767 : decode code 767 = .ok (.ireturn, 1) := by decide +kernel
theorem d_L_law_768 : decode code 768 = .ok (.aload_n 1, 1) := by decide +kernel
theorem d_L_law_769 : decode code 769 = .ok (.aload_n 0, 1) := by decide +kernel
theorem d_L_law_770 : decode code 770 = .ok (.iload_n 3, 1) := by decide +kernel
theorem d_L_law_771 : decode code 771 = .ok (.iconst 1, 1) := by decide +kernel
theorem d_L_law_772 : decode code 772 = .ok (.iadd, 1) := by decide +kernel
theorem d_L_law_773 : decode code 773 = .ok (.iaload, 1) := by decide +kernel
theorem d_L_law_774 : decode code 774 = .ok (.invokevirtual 108, 3) := by decide +kernel
theorem d_L_law_777 : decode code 777 = .ok (.aload_n 2, 1) := by decide +kernel
theorem d_L_law_778 : decode code 778 = .ok (.aload_n 0, 1) := by decide +kernel
theorem d_L_law_779 : decode code 779 = .ok (.iload_n 3, 1) := by decide +kernel
theorem d_L_law_780 : decode code 780 = .ok (.iconst 1, 1) := by decide +kernel
theorem d_L_law_781 : decode code 781 = .ok (.iadd, 1) := by decide +kernel
theorem d_L_law_782 : decode code 782 = .ok (.iaload, 1) := by decide +kernel
theorem d_L_law_783 : decode code 783 = .ok (.invokevirtual 111, 3) := by decide +kernel
theorem d_L_law_786 : decode code 786 = .ok (.if_icmp .eq 342, 3) := by decide +kernel
theorem d_L_law_789 : decode code 789 = .ok (.iconst 0, 1) := by decide +kernel
theorem d_L_law_790 : decode code 790 = .ok (.ireturn, 1) := by decide +kernel
theorem d_L_law_791 : decode code 791 = .ok (.aload_n 1, 1) := by decide +kernel
theorem d_L_law_792 : decode code 792 = .ok (.invokevirtual 112, 3) := by decide +kernel
theorem d_L_law_795 : decode code 795 = .ok (.aload_n 2, 1) := by decide +kernel
theorem d_L_law_796 : decode code 796 = .ok (.invokevirtual 115, 3) := by decide +kernel
theorem d_L_law_799 : decode code 799 = .ok (.if_icmp .eq 329, 3) := by decide +kernel
theorem d_L_law_802 : decode code 802 = .ok (.iconst 0, 1) := by decide +kernel
theorem d_L_law_803 : decode code 803 = .ok (.ireturn, 1) := by decide +kernel
theorem d_L_law_804 : decode code 804 = .ok (.aload_n 1, 1) := by decide +kernel
theorem d_L_law_805 : decode code 805 = .ok (.aload_n 0, 1) := by decide +kernel
theorem d_L_law_806 : decode code 806 = .ok (.iload_n 3, 1) := by decide +kernel
theorem d_L_law_807 : decode code 807 = .ok (.iconst 1, 1) := by decide +kernel
theorem d_L_law_808 : decode code 808 = .ok (.iadd, 1) := by decide +kernel
theorem d_L_law_809 : decode code 809 = .ok (.iaload, 1) := by decide +kernel
theorem d_L_law_810 : decode code 810 = .ok (.aload_n 0, 1) := by decide +kernel
theorem d_L_law_811 : decode code 811 = .ok (.iload_n 3, 1) := by decide +kernel
theorem d_L_law_812 : decode code 812 = .ok (.iconst 2, 1) := by decide +kernel
theorem d_L_law_813 : decode code 813 = .ok (.iadd, 1) := by decide +kernel
theorem d_L_law_814 : decode code 814 = .ok (.iaload, 1) := by decide +kernel
theorem d_L_law_815 : decode code 815 = .ok (.aload_n 0, 1) := by decide +kernel
theorem d_L_law_816 : decode code 816 = .ok (.iload_n 3, 1) := by decide +kernel
theorem d_L_law_817 : decode code 817 = .ok (.iconst 3, 1) := by decide +kernel
theorem d_L_law_818 : decode code 818 = .ok (.iadd, 1) := by decide +kernel
theorem d_L_law_819 : decode code 819 = .ok (.iaload, 1) := by decide +kernel
theorem d_L_law_820 : decode code 820 = .ok (.ifCond .eq 7, 3) := by decide +kernel
theorem d_L_law_823 : decode code 823 = .ok (.iconst 1, 1) := by decide +kernel
theorem d_L_law_824 : decode code 824 = .ok (.goto 4, 3) := by decide +kernel
theorem d_L_law_827 : decode code 827 = .ok (.iconst 0, 1) := by decide +kernel
theorem d_L_law_828 : decode code 828 = .ok (.invokevirtual 116, 3) := by decide +kernel
theorem d_L_law_831 : decode code 831 = .ok (.aload_n 2, 1) := by decide +kernel
theorem d_L_law_832 : decode code 832 = .ok (.aload_n 0, 1) := by decide +kernel
theorem d_L_law_833 : decode code 833 = .ok (.iload_n 3, 1) := by decide +kernel
theorem d_L_law_834 : decode code 834 = .ok (.iconst 1, 1) := by decide +kernel
theorem d_L_law_835 : decode code 835 = .ok (.iadd, 1) := by decide +kernel
theorem d_L_law_836 : decode code 836 = .ok (.iaload, 1) := by decide +kernel
theorem d_L_law_837 : decode code 837 = .ok (.aload_n 0, 1) := by decide +kernel
theorem d_L_law_838 : decode code 838 = .ok (.iload_n 3, 1) := by decide +kernel
theorem d_L_law_839 : decode code 839 = .ok (.iconst 2, 1) := by decide +kernel
theorem d_L_law_840 : decode code 840 = .ok (.iadd, 1) := by decide +kernel
theorem d_L_law_841 : decode code 841 = .ok (.iaload, 1) := by decide +kernel
theorem d_L_law_842 : decode code 842 = .ok (.aload_n 0, 1) := by decide +kernel
theorem d_L_law_843 : decode code 843 = .ok (.iload_n 3, 1) := by decide +kernel
theorem d_L_law_844 : decode code 844 = .ok (.iconst 3, 1) := by decide +kernel
theorem d_L_law_845 : decode code 845 = .ok (.iadd, 1) := by decide +kernel
theorem d_L_law_846 : decode code 846 = .ok (.iaload, 1) := by decide +kernel
theorem d_L_law_847 : decode code 847 = .ok (.ifCond .eq 7, 3) := by decide +kernel
theorem d_L_law_850 : decode code 850 = .ok (.iconst 1, 1) := by decide +kernel
theorem d_L_law_851 : decode code 851 = .ok (.goto 4, 3) := by decide +kernel
theorem d_L_law_854 : decode code 854 = .ok (.iconst 0, 1) := by decide +kernel
theorem d_L_law_855 : decode code 855 = .ok (.invokevirtual 120, 3) := by decide +kernel
theorem d_L_law_858 : decode code 858 = .ok (.if_icmp .eq 270, 3) := by decide +kernel
theorem d_L_law_861 : decode code 861 = .ok (.iconst 0, 1) := by decide +kernel
theorem d_L_law_862 : decode code 862 = .ok (.ireturn, 1) := by decide +kernel
theorem d_L_law_863 : decode code 863 = .ok (.aload_n 1, 1) := by decide +kernel
theorem d_L_law_864 : decode code 864 = .ok (.aload_n 0, 1) := by decide +kernel
theorem d_L_law_865 : decode code 865 = .ok (.iload_n 3, 1) := by decide +kernel
theorem d_L_law_866 : decode code 866 = .ok (.iconst 1, 1) := by decide +kernel
theorem d_L_law_867 : decode code 867 = .ok (.iadd, 1) := by decide +kernel
theorem d_L_law_868 : decode code 868 = .ok (.iaload, 1) := by decide +kernel
theorem d_L_law_869 : decode code 869 = .ok (.aload_n 0, 1) := by decide +kernel
theorem d_L_law_870 : decode code 870 = .ok (.iload_n 3, 1) := by decide +kernel
theorem d_L_law_871 : decode code 871 = .ok (.iconst 2, 1) := by decide +kernel
theorem d_L_law_872 : decode code 872 = .ok (.iadd, 1) := by decide +kernel
theorem d_L_law_873 : decode code 873 = .ok (.iaload, 1) := by decide +kernel
theorem d_L_law_874 : decode code 874 = .ok (.aload_n 0, 1) := by decide +kernel
theorem d_L_law_875 : decode code 875 = .ok (.iload_n 3, 1) := by decide +kernel
theorem d_L_law_876 : decode code 876 = .ok (.iconst 3, 1) := by decide +kernel
theorem d_L_law_877 : decode code 877 = .ok (.iadd, 1) := by decide +kernel
theorem d_L_law_878 : decode code 878 = .ok (.iaload, 1) := by decide +kernel
theorem d_L_law_879 : decode code 879 = .ok (.aload_n 0, 1) := by decide +kernel
theorem d_L_law_880 : decode code 880 = .ok (.iload_n 3, 1) := by decide +kernel
theorem d_L_law_881 : decode code 881 = .ok (.iconst 4, 1) := by decide +kernel
theorem d_L_law_882 : decode code 882 = .ok (.iadd, 1) := by decide +kernel
theorem d_L_law_883 : decode code 883 = .ok (.iaload, 1) := by decide +kernel
theorem d_L_law_884 : decode code 884 = .ok (.aload_n 0, 1) := by decide +kernel
theorem d_L_law_885 : decode code 885 = .ok (.iload_n 3, 1) := by decide +kernel
theorem d_L_law_886 : decode code 886 = .ok (.iconst 5, 1) := by decide +kernel
theorem d_L_law_887 : decode code 887 = .ok (.iadd, 1) := by decide +kernel
theorem d_L_law_888 : decode code 888 = .ok (.iaload, 1) := by decide +kernel
theorem d_L_law_889 : decode code 889 = .ok (.invokevirtual 121, 3) := by decide +kernel
theorem d_L_law_892 : decode code 892 = .ok (.aload_n 2, 1) := by decide +kernel
theorem d_L_law_893 : decode code 893 = .ok (.aload_n 0, 1) := by decide +kernel
theorem d_L_law_894 : decode code 894 = .ok (.iload_n 3, 1) := by decide +kernel
theorem d_L_law_895 : decode code 895 = .ok (.iconst 1, 1) := by decide +kernel
theorem d_L_law_896 : decode code 896 = .ok (.iadd, 1) := by decide +kernel
theorem d_L_law_897 : decode code 897 = .ok (.iaload, 1) := by decide +kernel
theorem d_L_law_898 : decode code 898 = .ok (.aload_n 0, 1) := by decide +kernel
theorem d_L_law_899 : decode code 899 = .ok (.iload_n 3, 1) := by decide +kernel
theorem d_L_law_900 : decode code 900 = .ok (.iconst 2, 1) := by decide +kernel
theorem d_L_law_901 : decode code 901 = .ok (.iadd, 1) := by decide +kernel
theorem d_L_law_902 : decode code 902 = .ok (.iaload, 1) := by decide +kernel
theorem d_L_law_903 : decode code 903 = .ok (.aload_n 0, 1) := by decide +kernel
theorem d_L_law_904 : decode code 904 = .ok (.iload_n 3, 1) := by decide +kernel
theorem d_L_law_905 : decode code 905 = .ok (.iconst 3, 1) := by decide +kernel
theorem d_L_law_906 : decode code 906 = .ok (.iadd, 1) := by decide +kernel
theorem d_L_law_907 : decode code 907 = .ok (.iaload, 1) := by decide +kernel
theorem d_L_law_908 : decode code 908 = .ok (.aload_n 0, 1) := by decide +kernel
theorem d_L_law_909 : decode code 909 = .ok (.iload_n 3, 1) := by decide +kernel
theorem d_L_law_910 : decode code 910 = .ok (.iconst 4, 1) := by decide +kernel
theorem d_L_law_911 : decode code 911 = .ok (.iadd, 1) := by decide +kernel
theorem d_L_law_912 : decode code 912 = .ok (.iaload, 1) := by decide +kernel
theorem d_L_law_913 : decode code 913 = .ok (.aload_n 0, 1) := by decide +kernel
theorem d_L_law_914 : decode code 914 = .ok (.iload_n 3, 1) := by decide +kernel
theorem d_L_law_915 : decode code 915 = .ok (.iconst 5, 1) := by decide +kernel
theorem d_L_law_916 : decode code 916 = .ok (.iadd, 1) := by decide +kernel
theorem d_L_law_917 : decode code 917 = .ok (.iaload, 1) := by decide +kernel
theorem d_L_law_918 : decode code 918 = .ok (.invokevirtual 125, 3) := by decide +kernel
theorem d_L_law_921 : decode code 921 = .ok (.if_icmp .eq 207, 3) := by decide +kernel
theorem d_L_law_924 : decode code 924 = .ok (.iconst 0, 1) := by decide +kernel
theorem d_L_law_925 : decode code 925 = .ok (.ireturn, 1) := by decide +kernel
theorem d_L_law_926 : decode code 926 = .ok (.aload_n 1, 1) := by decide +kernel
theorem d_L_law_927 : decode code 927 = .ok (.aload_n 0, 1) := by decide +kernel
theorem d_L_law_928 : decode code 928 = .ok (.iload_n 3, 1) := by decide +kernel
theorem d_L_law_929 : decode code 929 = .ok (.iconst 1, 1) := by decide +kernel
theorem d_L_law_930 : decode code 930 = .ok (.iadd, 1) := by decide +kernel
theorem d_L_law_931 : decode code 931 = .ok (.iaload, 1) := by decide +kernel
theorem d_L_law_932 : decode code 932 = .ok (.aload_n 0, 1) := by decide +kernel
theorem d_L_law_933 : decode code 933 = .ok (.iload_n 3, 1) := by decide +kernel
theorem d_L_law_934 : decode code 934 = .ok (.iconst 2, 1) := by decide +kernel
theorem d_L_law_935 : decode code 935 = .ok (.iadd, 1) := by decide +kernel
theorem d_L_law_936 : decode code 936 = .ok (.iaload, 1) := by decide +kernel
theorem d_L_law_937 : decode code 937 = .ok (.aload_n 0, 1) := by decide +kernel
theorem d_L_law_938 : decode code 938 = .ok (.iload_n 3, 1) := by decide +kernel
theorem d_L_law_939 : decode code 939 = .ok (.iconst 3, 1) := by decide +kernel
theorem d_L_law_940 : decode code 940 = .ok (.iadd, 1) := by decide +kernel
theorem d_L_law_941 : decode code 941 = .ok (.iaload, 1) := by decide +kernel
theorem d_L_law_942 : decode code 942 = .ok (.aload_n 0, 1) := by decide +kernel
theorem d_L_law_943 : decode code 943 = .ok (.iload_n 3, 1) := by decide +kernel
theorem d_L_law_944 : decode code 944 = .ok (.iconst 4, 1) := by decide +kernel
theorem d_L_law_945 : decode code 945 = .ok (.iadd, 1) := by decide +kernel
theorem d_L_law_946 : decode code 946 = .ok (.iaload, 1) := by decide +kernel
theorem d_L_law_947 : decode code 947 = .ok (.aload_n 0, 1) := by decide +kernel
theorem d_L_law_948 : decode code 948 = .ok (.iload_n 3, 1) := by decide +kernel
theorem d_L_law_949 : decode code 949 = .ok (.iconst 5, 1) := by decide +kernel
theorem d_L_law_950 : decode code 950 = .ok (.iadd, 1) := by decide +kernel
theorem d_L_law_951 : decode code 951 = .ok (.iaload, 1) := by decide +kernel
theorem d_L_law_952 : decode code 952 = .ok (.ifCond .eq 7, 3) := by decide +kernel
theorem d_L_law_955 : decode code 955 = .ok (.iconst 1, 1) := by decide +kernel
theorem d_L_law_956 : decode code 956 = .ok (.goto 4, 3) := by decide +kernel
theorem d_L_law_959 : decode code 959 = .ok (.iconst 0, 1) := by decide +kernel
theorem d_L_law_960 : decode code 960 = .ok (.invokevirtual 126, 3) := by decide +kernel
theorem d_L_law_963 : decode code 963 = .ok (.aload_n 2, 1) := by decide +kernel
theorem d_L_law_964 : decode code 964 = .ok (.aload_n 0, 1) := by decide +kernel
theorem d_L_law_965 : decode code 965 = .ok (.iload_n 3, 1) := by decide +kernel
theorem d_L_law_966 : decode code 966 = .ok (.iconst 1, 1) := by decide +kernel
theorem d_L_law_967 : decode code 967 = .ok (.iadd, 1) := by decide +kernel
theorem d_L_law_968 : decode code 968 = .ok (.iaload, 1) := by decide +kernel
theorem d_L_law_969 : decode code 969 = .ok (.aload_n 0, 1) := by decide +kernel
theorem d_L_law_970 : decode code 970 = .ok (.iload_n 3, 1) := by decide +kernel
theorem d_L_law_971 : decode code 971 = .ok (.iconst 2, 1) := by decide +kernel
theorem d_L_law_972 : decode code 972 = .ok (.iadd, 1) := by decide +kernel
theorem d_L_law_973 : decode code 973 = .ok (.iaload, 1) := by decide +kernel
theorem d_L_law_974 : decode code 974 = .ok (.aload_n 0, 1) := by decide +kernel
theorem d_L_law_975 : decode code 975 = .ok (.iload_n 3, 1) := by decide +kernel
theorem d_L_law_976 : decode code 976 = .ok (.iconst 3, 1) := by decide +kernel
theorem d_L_law_977 : decode code 977 = .ok (.iadd, 1) := by decide +kernel
theorem d_L_law_978 : decode code 978 = .ok (.iaload, 1) := by decide +kernel
theorem d_L_law_979 : decode code 979 = .ok (.aload_n 0, 1) := by decide +kernel
theorem d_L_law_980 : decode code 980 = .ok (.iload_n 3, 1) := by decide +kernel
theorem d_L_law_981 : decode code 981 = .ok (.iconst 4, 1) := by decide +kernel
theorem d_L_law_982 : decode code 982 = .ok (.iadd, 1) := by decide +kernel
theorem d_L_law_983 : decode code 983 = .ok (.iaload, 1) := by decide +kernel
theorem d_L_law_984 : decode code 984 = .ok (.aload_n 0, 1) := by decide +kernel
theorem d_L_law_985 : decode code 985 = .ok (.iload_n 3, 1) := by decide +kernel
theorem d_L_law_986 : decode code 986 = .ok (.iconst 5, 1) := by decide +kernel
theorem d_L_law_987 : decode code 987 = .ok (.iadd, 1) := by decide +kernel
theorem d_L_law_988 : decode code 988 = .ok (.iaload, 1) := by decide +kernel
theorem d_L_law_989 : decode code 989 = .ok (.ifCond .eq 7, 3) := by decide +kernel
theorem d_L_law_992 : decode code 992 = .ok (.iconst 1, 1) := by decide +kernel
theorem d_L_law_993 : decode code 993 = .ok (.goto 4, 3) := by decide +kernel
theorem d_L_law_996 : decode code 996 = .ok (.iconst 0, 1) := by decide +kernel
theorem d_L_law_997 : decode code 997 = .ok (.invokevirtual 130, 3) := by decide +kernel
theorem d_L_law_1000 : decode code 1000 = .ok (.if_icmp .eq 128, 3) := by decide +kernel
theorem d_L_law_1003 : decode code 1003 = .ok (.iconst 0, 1) := by decide +kernel
theorem d_L_law_1004 : decode code 1004 = .ok (.ireturn, 1) := by decide +kernel
theorem d_L_law_1005 : decode code 1005 = .ok (.aload_n 1, 1) := by decide +kernel
theorem d_L_law_1006 : decode code 1006 = .ok (.aload_n 0, 1) := by decide +kernel
theorem d_L_law_1007 : decode code 1007 = .ok (.iload_n 3, 1) := by decide +kernel
theorem d_L_law_1008 : decode code 1008 = .ok (.iconst 1, 1) := by decide +kernel
theorem d_L_law_1009 : decode code 1009 = .ok (.iadd, 1) := by decide +kernel
theorem d_L_law_1010 : decode code 1010 = .ok (.iaload, 1) := by decide +kernel
theorem d_L_law_1011 : decode code 1011 = .ok (.i2l, 1) := by decide +kernel
theorem d_L_law_1012 : decode code 1012 = .ok (.bipush 32, 2) := by decide +kernel
theorem d_L_law_1014 : decode code 1014 = .ok (.lshl, 1) := by decide +kernel
theorem d_L_law_1015 : decode code 1015 = .ok (.aload_n 0, 1) := by decide +kernel
theorem d_L_law_1016 : decode code 1016 = .ok (.iload_n 3, 1) := by decide +kernel
theorem d_L_law_1017 : decode code 1017 = .ok (.iconst 2, 1) := by decide +kernel
theorem d_L_law_1018 : decode code 1018 = .ok (.iadd, 1) := by decide +kernel
theorem d_L_law_1019 : decode code 1019 = .ok (.iaload, 1) := by decide +kernel
theorem d_L_law_1020 : decode code 1020 = .ok (.i2l, 1) := by decide +kernel
theorem d_L_law_1021 : decode code 1021 = .ok (.ldc2_w 97, 3) := by decide +kernel
theorem d_L_law_1024 : decode code 1024 = .ok (.land, 1) := by decide +kernel
theorem d_L_law_1025 : decode code 1025 = .ok (.lor, 1) := by decide +kernel
theorem d_L_law_1026 : decode code 1026 = .ok (.invokevirtual 131, 3) := by decide +kernel
theorem d_L_law_1029 : decode code 1029 = .ok (.aload_n 2, 1) := by decide +kernel
theorem d_L_law_1030 : decode code 1030 = .ok (.aload_n 0, 1) := by decide +kernel
theorem d_L_law_1031 : decode code 1031 = .ok (.iload_n 3, 1) := by decide +kernel
theorem d_L_law_1032 : decode code 1032 = .ok (.iconst 1, 1) := by decide +kernel
theorem d_L_law_1033 : decode code 1033 = .ok (.iadd, 1) := by decide +kernel
theorem d_L_law_1034 : decode code 1034 = .ok (.iaload, 1) := by decide +kernel
theorem d_L_law_1035 : decode code 1035 = .ok (.i2l, 1) := by decide +kernel
theorem d_L_law_1036 : decode code 1036 = .ok (.bipush 32, 2) := by decide +kernel
theorem d_L_law_1038 : decode code 1038 = .ok (.lshl, 1) := by decide +kernel
theorem d_L_law_1039 : decode code 1039 = .ok (.aload_n 0, 1) := by decide +kernel
theorem d_L_law_1040 : decode code 1040 = .ok (.iload_n 3, 1) := by decide +kernel
theorem d_L_law_1041 : decode code 1041 = .ok (.iconst 2, 1) := by decide +kernel
theorem d_L_law_1042 : decode code 1042 = .ok (.iadd, 1) := by decide +kernel
theorem d_L_law_1043 : decode code 1043 = .ok (.iaload, 1) := by decide +kernel
theorem d_L_law_1044 : decode code 1044 = .ok (.i2l, 1) := by decide +kernel
theorem d_L_law_1045 : decode code 1045 = .ok (.ldc2_w 97, 3) := by decide +kernel
theorem d_L_law_1048 : decode code 1048 = .ok (.land, 1) := by decide +kernel
theorem d_L_law_1049 : decode code 1049 = .ok (.lor, 1) := by decide +kernel
theorem d_L_law_1050 : decode code 1050 = .ok (.invokevirtual 135, 3) := by decide +kernel
theorem d_L_law_1053 : decode code 1053 = .ok (.lcmp, 1) := by decide +kernel
theorem d_L_law_1054 : decode code 1054 = .ok (.ifCond .eq 74, 3) := by decide +kernel
theorem d_L_law_1057 : decode code 1057 = .ok (.iconst 0, 1) := by decide +kernel
theorem d_L_law_1058 : decode code 1058 = .ok (.ireturn, 1) := by decide +kernel
theorem d_L_law_1059 : decode code 1059 = .ok (.aload_n 1, 1) := by decide +kernel
theorem d_L_law_1060 : decode code 1060 = .ok (.aload_n 0, 1) := by decide +kernel
theorem d_L_law_1061 : decode code 1061 = .ok (.iload_n 3, 1) := by decide +kernel
theorem d_L_law_1062 : decode code 1062 = .ok (.iconst 1, 1) := by decide +kernel
theorem d_L_law_1063 : decode code 1063 = .ok (.iadd, 1) := by decide +kernel
theorem d_L_law_1064 : decode code 1064 = .ok (.iaload, 1) := by decide +kernel
theorem d_L_law_1065 : decode code 1065 = .ok (.invokevirtual 136, 3) := by decide +kernel
theorem d_L_law_1068 : decode code 1068 = .ok (.aload_n 2, 1) := by decide +kernel
theorem d_L_law_1069 : decode code 1069 = .ok (.aload_n 0, 1) := by decide +kernel
theorem d_L_law_1070 : decode code 1070 = .ok (.iload_n 3, 1) := by decide +kernel
theorem d_L_law_1071 : decode code 1071 = .ok (.iconst 1, 1) := by decide +kernel
theorem d_L_law_1072 : decode code 1072 = .ok (.iadd, 1) := by decide +kernel
theorem d_L_law_1073 : decode code 1073 = .ok (.iaload, 1) := by decide +kernel
theorem d_L_law_1074 : decode code 1074 = .ok (.invokevirtual 139, 3) := by decide +kernel
theorem d_L_law_1077 : decode code 1077 = .ok (.if_icmp .eq 51, 3) := by decide +kernel
theorem d_L_law_1080 : decode code 1080 = .ok (.iconst 0, 1) := by decide +kernel
theorem d_L_law_1081 : decode code 1081 = .ok (.ireturn, 1) := by decide +kernel
theorem d_L_law_1082 : decode code 1082 = .ok (.aload_n 1, 1) := by decide +kernel
theorem d_L_law_1083 : decode code 1083 = .ok (.aload_n 0, 1) := by decide +kernel
theorem d_L_law_1084 : decode code 1084 = .ok (.iload_n 3, 1) := by decide +kernel
theorem d_L_law_1085 : decode code 1085 = .ok (.iconst 1, 1) := by decide +kernel
theorem d_L_law_1086 : decode code 1086 = .ok (.iadd, 1) := by decide +kernel
theorem d_L_law_1087 : decode code 1087 = .ok (.iaload, 1) := by decide +kernel
theorem d_L_law_1088 : decode code 1088 = .ok (.invokevirtual 140, 3) := by decide +kernel
theorem d_L_law_1091 : decode code 1091 = .ok (.aload_n 2, 1) := by decide +kernel
theorem d_L_law_1092 : decode code 1092 = .ok (.aload_n 0, 1) := by decide +kernel
theorem d_L_law_1093 : decode code 1093 = .ok (.iload_n 3, 1) := by decide +kernel
theorem d_L_law_1094 : decode code 1094 = .ok (.iconst 1, 1) := by decide +kernel
theorem d_L_law_1095 : decode code 1095 = .ok (.iadd, 1) := by decide +kernel
theorem d_L_law_1096 : decode code 1096 = .ok (.iaload, 1) := by decide +kernel
theorem d_L_law_1097 : decode code 1097 = .ok (.invokevirtual 143, 3) := by decide +kernel
theorem d_L_law_1100 : decode code 1100 = .ok (.if_icmp .eq 28, 3) := by decide +kernel
theorem d_L_law_1103 : decode code 1103 = .ok (.iconst 0, 1) := by decide +kernel
theorem d_L_law_1104 : decode code 1104 = .ok (.ireturn, 1) := by decide +kernel
theorem d_L_law_1105 : decode code 1105 = .ok (.aload_n 1, 1) := by decide +kernel
theorem d_L_law_1106 : decode code 1106 = .ok (.aload_n 0, 1) := by decide +kernel
theorem d_L_law_1107 : decode code 1107 = .ok (.iload_n 3, 1) := by decide +kernel
theorem d_L_law_1108 : decode code 1108 = .ok (.iconst 1, 1) := by decide +kernel
theorem d_L_law_1109 : decode code 1109 = .ok (.iadd, 1) := by decide +kernel
theorem d_L_law_1110 : decode code 1110 = .ok (.iaload, 1) := by decide +kernel
theorem d_L_law_1111 : decode code 1111 = .ok (.invokevirtual 144, 3) := by decide +kernel
theorem d_L_law_1114 : decode code 1114 = .ok (.aload_n 2, 1) := by decide +kernel
theorem d_L_law_1115 : decode code 1115 = .ok (.aload_n 0, 1) := by decide +kernel
theorem d_L_law_1116 : decode code 1116 = .ok (.iload_n 3, 1) := by decide +kernel
theorem d_L_law_1117 : decode code 1117 = .ok (.iconst 1, 1) := by decide +kernel
theorem d_L_law_1118 : decode code 1118 = .ok (.iadd, 1) := by decide +kernel
theorem d_L_law_1119 : decode code 1119 = .ok (.iaload, 1) := by decide +kernel
theorem d_L_law_1120 : decode code 1120 = .ok (.invokevirtual 147, 3) := by decide +kernel
theorem d_L_law_1123 : decode code 1123 = .ok (.if_icmp .eq 5, 3) := by decide +kernel
theorem d_L_law_1126 : decode code 1126 = .ok (.iconst 0, 1) := by decide +kernel
theorem d_L_law_1127 : decode code 1127 = .ok (.ireturn, 1) := by decide +kernel
theorem d_L_law_1128 : decode code 1128 = .ok (.iinc 3 6, 3) := by decide +kernel
theorem d_L_law_1131 : decode code 1131 = .ok (.goto (-1113), 3) := by decide +kernel
theorem d_L_law_1134 : decode code 1134 = .ok (.iconst 1, 1) := by decide +kernel
theorem d_L_law_1135 : decode code 1135 = .ok (.ireturn, 1) := by decide +kernel
end
section
/-! A row for each field and each call that the code links. -/
def g_ft (X : g_X) (d2 : Nat) : Prop := (d2 + 1 ≤ X.2.1.frames ∧ 33 * d2 + 33 ≤ X.2.1.locals) ∧ (X.2.2.2.2.1.1 ≤ X.2.1.cells ∧ X.2.2.2.2.1.2 ≤ X.2.1.slots)
theorem g_ftM {G : g_G} {l : Launch} {d d2 : Nat} {ret : Option FieldType} {post : Option Value → g_V → g_L → Prop} (h : d2 + 1 ≤ d) : g_ft (g_M G l d ret post) d2 :=
  ⟨⟨h, (by show 33 * d2 + 33 ≤ 33 * d; omega)⟩, ⟨Nat.le_refl 0, Nat.le_refl 0⟩⟩
section LNK
variable {G : g_G} {X : g_X} {cc : ByteArray} {pc : Nat} {lv : List (Option Value)} {st st0 As : List Value} {V : g_V} {S : g_L} {d2 : Nat} {post2 : Option Value → g_V → g_L → Prop} {j : Nat}
theorem gf_H_15 (hj : j < 17) (hd : decode cc pc = .ok (.getfield 15, 3)) (kk : JW G X cc R_H (pc + 3) lv (.ref (g_a G (hB j + 2)) :: st) V S) : JW G X cc R_H pc lv (.ref (g_a G (hB j)) :: st) V S :=
  j_get hd (cl := (hB j)) (hB_lt (r := 0) hj (by decide)) (g_E_held (r := 0) hj (by decide)) (T := T_H) (N := 7) rfl in_H (k := 1) (by decide) rfl (g_use (List.mem_of_getElem? (i := 93) (by decide +kernel)) rfl) rfl kk
theorem gf_H_18 (hj : j < 17) (hd : decode cc pc = .ok (.getfield 18, 3)) (kk : JW G X cc R_H (pc + 3) lv (.ref (g_a G (hB j + 3)) :: st) V S) : JW G X cc R_H pc lv (.ref (g_a G (hB j)) :: st) V S :=
  j_get hd (cl := (hB j)) (hB_lt (r := 0) hj (by decide)) (g_E_held (r := 0) hj (by decide)) (T := T_H) (N := 7) rfl in_H (k := 2) (by decide) rfl (g_use (List.mem_of_getElem? (i := 95) (by decide +kernel)) rfl) rfl kk
theorem gf_H_23 (hj : j < 17) (hd : decode cc pc = .ok (.getfield 23, 3)) (kk : JW G X cc R_H (pc + 3) lv (.ref (g_a G (hB j + 4)) :: st) V S) : JW G X cc R_H pc lv (.ref (g_a G (hB j)) :: st) V S :=
  j_get hd (cl := (hB j)) (hB_lt (r := 0) hj (by decide)) (g_E_held (r := 0) hj (by decide)) (T := T_H) (N := 7) rfl in_H (k := 3) (by decide) rfl (g_use (List.mem_of_getElem? (i := 97) (by decide +kernel)) rfl) rfl kk
theorem gf_H_32 (hj : j < 17) (hd : decode cc pc = .ok (.getfield 32, 3)) (kk : JW G X cc R_H (pc + 3) lv (.int (nI (V (hB j) 4)) :: st) V S) : JW G X cc R_H pc lv (.ref (g_a G (hB j)) :: st) V S :=
  j_get hd (cl := (hB j)) (hB_lt (r := 0) hj (by decide)) (g_E_held (r := 0) hj (by decide)) (T := T_H) (N := 7) rfl in_H (k := 4) (by decide) rfl (g_use (List.mem_of_getElem? (i := 99) (by decide +kernel)) rfl) rfl kk
theorem pf_H_32 (hj : j < 17) {x : Nat} (hd : decode cc pc = .ok (.putfield 32, 3)) (kk : JW G X cc R_H (pc + 3) lv st (g_up V (hB j) 4 x) S) : JW G X cc R_H pc lv (.int (nI x) :: .ref (g_a G (hB j)) :: st) V S :=
  j_put hd (cl := (hB j)) (hB_lt (r := 0) hj (by decide)) (g_E_held (r := 0) hj (by decide)) (T := T_H) (N := 7) rfl in_H ty_H_ok nm_H (k := 4) (by decide) rfl (g_use (List.mem_of_getElem? (i := 99) (by decide +kernel)) rfl) rfl rfl rfl (Nat.le_of_ble_eq_true rfl) (fun c h => ⟨g_up_ne h, rfl⟩) (by rw [show g_E G (g_up V (hB j) 4 x (hB j)) (S (hB j)) (hB j) = g_held G (g_up V (hB j) 4 x (hB j)) (hB j) 0 from g_E_held (r := 0) hj (by decide)]; simp [g_held, g_up]) kk
theorem gf_H_36 (hj : j < 17) (hd : decode cc pc = .ok (.getfield 36, 3)) (kk : JW G X cc R_H (pc + 3) lv (.int (nI (V (hB j) 5)) :: st) V S) : JW G X cc R_H pc lv (.ref (g_a G (hB j)) :: st) V S :=
  j_get hd (cl := (hB j)) (hB_lt (r := 0) hj (by decide)) (g_E_held (r := 0) hj (by decide)) (T := T_H) (N := 7) rfl in_H (k := 5) (by decide) rfl (g_use (List.mem_of_getElem? (i := 101) (by decide +kernel)) rfl) rfl kk
theorem pf_H_36 (hj : j < 17) {x : Nat} (hd : decode cc pc = .ok (.putfield 36, 3)) (kk : JW G X cc R_H (pc + 3) lv st (g_up V (hB j) 5 x) S) : JW G X cc R_H pc lv (.int (nI x) :: .ref (g_a G (hB j)) :: st) V S :=
  j_put hd (cl := (hB j)) (hB_lt (r := 0) hj (by decide)) (g_E_held (r := 0) hj (by decide)) (T := T_H) (N := 7) rfl in_H ty_H_ok nm_H (k := 5) (by decide) rfl (g_use (List.mem_of_getElem? (i := 101) (by decide +kernel)) rfl) rfl rfl rfl (Nat.le_of_ble_eq_true rfl) (fun c h => ⟨g_up_ne h, rfl⟩) (by rw [show g_E G (g_up V (hB j) 5 x (hB j)) (S (hB j)) (hB j) = g_held G (g_up V (hB j) 5 x (hB j)) (hB j) 0 from g_E_held (r := 0) hj (by decide)]; simp [g_held, g_up]) kk
theorem gf_H_39 (hj : j < 17) (hd : decode cc pc = .ok (.getfield 39, 3)) (kk : JW G X cc R_H (pc + 3) lv (.int (nI (V (hB j) 6)) :: st) V S) : JW G X cc R_H pc lv (.ref (g_a G (hB j)) :: st) V S :=
  j_get hd (cl := (hB j)) (hB_lt (r := 0) hj (by decide)) (g_E_held (r := 0) hj (by decide)) (T := T_H) (N := 7) rfl in_H (k := 6) (by decide) rfl (g_use (List.mem_of_getElem? (i := 103) (by decide +kernel)) rfl) rfl kk
theorem pf_H_39 (hj : j < 17) {x : Nat} (hd : decode cc pc = .ok (.putfield 39, 3)) (kk : JW G X cc R_H (pc + 3) lv st (g_up V (hB j) 6 x) S) : JW G X cc R_H pc lv (.int (nI x) :: .ref (g_a G (hB j)) :: st) V S :=
  j_put hd (cl := (hB j)) (hB_lt (r := 0) hj (by decide)) (g_E_held (r := 0) hj (by decide)) (T := T_H) (N := 7) rfl in_H ty_H_ok nm_H (k := 6) (by decide) rfl (g_use (List.mem_of_getElem? (i := 103) (by decide +kernel)) rfl) rfl rfl rfl (Nat.le_of_ble_eq_true rfl) (fun c h => ⟨g_up_ne h, rfl⟩) (by rw [show g_E G (g_up V (hB j) 6 x (hB j)) (S (hB j)) (hB j) = g_held G (g_up V (hB j) 6 x (hB j)) (hB j) 0 from g_E_held (r := 0) hj (by decide)]; simp [g_held, g_up]) kk
theorem gf_H_9 (hj : j < 17) (hd : decode cc pc = .ok (.getfield 9, 3)) (kk : JW G X cc R_H (pc + 3) lv (.ref (g_a G (hB j + 1)) :: st) V S) : JW G X cc R_H pc lv (.ref (g_a G (hB j)) :: st) V S :=
  j_get hd (cl := (hB j)) (hB_lt (r := 0) hj (by decide)) (g_E_held (r := 0) hj (by decide)) (T := T_H) (N := 7) rfl in_H (k := 0) (by decide) rfl (g_use (List.mem_of_getElem? (i := 91) (by decide +kernel)) rfl) rfl kk
theorem gf_S_15 (hd : decode cc pc = .ok (.getfield 15, 3)) (kk : JW G X cc R_S (pc + 3) lv (.int (nI (V 1 1)) :: st) V S) : JW G X cc R_S pc lv (.ref (g_a G 1) :: st) V S :=
  j_get hd (cl := 1) (by decide) (rfl) (T := T_S) (N := 2) rfl in_S (k := 1) (by decide) rfl (g_use (List.mem_of_getElem? (i := 75) (by decide +kernel)) rfl) rfl kk
theorem pf_S_15 {x : Nat} (hd : decode cc pc = .ok (.putfield 15, 3)) (kk : JW G X cc R_S (pc + 3) lv st (g_up V 1 1 x) S) : JW G X cc R_S pc lv (.int (nI x) :: .ref (g_a G 1) :: st) V S :=
  j_put hd (cl := 1) (by decide) (rfl) (T := T_S) (N := 2) rfl in_S ty_S_ok nm_S (k := 1) (by decide) rfl (g_use (List.mem_of_getElem? (i := 75) (by decide +kernel)) rfl) rfl rfl rfl (Nat.le_of_ble_eq_true rfl) (fun c h => ⟨g_up_ne h, rfl⟩) rfl kk
theorem gf_S_9 (hd : decode cc pc = .ok (.getfield 9, 3)) (kk : JW G X cc R_S (pc + 3) lv (.ref (g_a G 2) :: st) V S) : JW G X cc R_S pc lv (.ref (g_a G 1) :: st) V S :=
  j_get hd (cl := 1) (by decide) (rfl) (T := T_S) (N := 2) rfl in_S (k := 0) (by decide) rfl (g_use (List.mem_of_getElem? (i := 73) (by decide +kernel)) rfl) rfl kk
theorem gf_D_10 (hd : decode cc pc = .ok (.getfield 10, 3)) (kk : JW G X cc R_D (pc + 3) lv (.ref (g_a G 1) :: st) V S) : JW G X cc R_D pc lv (.ref (g_a G 0) :: st) V S :=
  j_get hd (cl := 0) (by decide) (rfl) (T := T_D) (N := 18) rfl in_D (k := 0) (by decide) rfl (g_use (List.mem_of_getElem? (i := 121) (by decide +kernel)) rfl) rfl kk
theorem gf_D_16 (hd : decode cc pc = .ok (.getfield 16, 3)) (kk : JW G X cc R_D (pc + 3) lv (.ref (g_a G 3) :: st) V S) : JW G X cc R_D pc lv (.ref (g_a G 0) :: st) V S :=
  j_get hd (cl := 0) (by decide) (rfl) (T := T_D) (N := 18) rfl in_D (k := 2) (by decide) rfl (g_use (List.mem_of_getElem? (i := 123) (by decide +kernel)) rfl) rfl kk
theorem gs_D_192 : Cond.fieldLink R_D 192 R_D "ORDERS" "[I" ∈ lw_use := g_use (List.mem_of_getElem? (i := 411) (by decide +kernel)) rfl
theorem gf_D_20 (hd : decode cc pc = .ok (.getfield 20, 3)) (kk : JW G X cc R_D (pc + 3) lv (.ref (g_a G 4) :: st) V S) : JW G X cc R_D pc lv (.ref (g_a G 0) :: st) V S :=
  j_get hd (cl := 0) (by decide) (rfl) (T := T_D) (N := 18) rfl in_D (k := 3) (by decide) rfl (g_use (List.mem_of_getElem? (i := 124) (by decide +kernel)) rfl) rfl kk
theorem gf_D_214 (hd : decode cc pc = .ok (.getfield 214, 3)) (kk : JW G X cc R_D (pc + 3) lv (.long (S 0) :: st) V S) : JW G X cc R_D pc lv (.ref (g_a G 0) :: st) V S :=
  j_get hd (cl := 0) (by decide) (rfl) (T := T_D) (N := 18) rfl in_D (k := 11) (by decide) rfl (g_use (List.mem_of_getElem? (i := 132) (by decide +kernel)) rfl) rfl kk
theorem pf_D_214 {x : Int64} (hd : decode cc pc = .ok (.putfield 214, 3)) (kk : JW G X cc R_D (pc + 3) lv st V (g_upL S 0 x)) : JW G X cc R_D pc lv (.long x :: .ref (g_a G 0) :: st) V S :=
  j_put hd (cl := 0) (by decide) (rfl) (T := T_D) (N := 18) rfl in_D ty_D_ok nm_D (k := 11) (by decide) rfl (g_use (List.mem_of_getElem? (i := 132) (by decide +kernel)) rfl) rfl rfl rfl (Nat.le_of_ble_eq_true rfl) (fun c h => ⟨rfl, g_upL_ne h⟩) rfl kk
theorem gf_D_224 (hd : decode cc pc = .ok (.getfield 224, 3)) (kk : JW G X cc R_D (pc + 3) lv (.int (nI (V 0 7)) :: st) V S) : JW G X cc R_D pc lv (.ref (g_a G 0) :: st) V S :=
  j_get hd (cl := 0) (by decide) (rfl) (T := T_D) (N := 18) rfl in_D (k := 7) (by decide) rfl (g_use (List.mem_of_getElem? (i := 128) (by decide +kernel)) rfl) rfl kk
theorem pf_D_224 {x : Nat} (hd : decode cc pc = .ok (.putfield 224, 3)) (kk : JW G X cc R_D (pc + 3) lv st (g_up V 0 7 x) S) : JW G X cc R_D pc lv (.int (nI x) :: .ref (g_a G 0) :: st) V S :=
  j_put hd (cl := 0) (by decide) (rfl) (T := T_D) (N := 18) rfl in_D ty_D_ok nm_D (k := 7) (by decide) rfl (g_use (List.mem_of_getElem? (i := 128) (by decide +kernel)) rfl) rfl rfl rfl (Nat.le_of_ble_eq_true rfl) (fun c h => ⟨g_up_ne h, rfl⟩) rfl kk
theorem gf_D_23 (hd : decode cc pc = .ok (.getfield 23, 3)) (kk : JW G X cc R_D (pc + 3) lv (.ref (g_a G 5) :: st) V S) : JW G X cc R_D pc lv (.ref (g_a G 0) :: st) V S :=
  j_get hd (cl := 0) (by decide) (rfl) (T := T_D) (N := 18) rfl in_D (k := 4) (by decide) rfl (g_use (List.mem_of_getElem? (i := 125) (by decide +kernel)) rfl) rfl kk
theorem gf_D_29 (hd : decode cc pc = .ok (.getfield 29, 3)) (kk : JW G X cc R_D (pc + 3) lv (.ref (g_a G (hB 0)) :: st) V S) : JW G X cc R_D pc lv (.ref (g_a G 0) :: st) V S :=
  j_get hd (cl := 0) (by decide) (rfl) (T := T_D) (N := 18) rfl in_D (k := 5) (by decide) rfl (g_use (List.mem_of_getElem? (i := 126) (by decide +kernel)) rfl) rfl kk
theorem gf_D_33 (hd : decode cc pc = .ok (.getfield 33, 3)) (kk : JW G X cc R_D (pc + 3) lv (.ref (g_a G 6) :: st) V S) : JW G X cc R_D pc lv (.ref (g_a G 0) :: st) V S :=
  j_get hd (cl := 0) (by decide) (rfl) (T := T_D) (N := 18) rfl in_D (k := 6) (by decide) rfl (g_use (List.mem_of_getElem? (i := 127) (by decide +kernel)) rfl) rfl kk
theorem gf_D_37 (hd : decode cc pc = .ok (.getfield 37, 3)) (kk : JW G X cc R_D (pc + 3) lv (.ref (g_a G 7) :: st) V S) : JW G X cc R_D pc lv (.ref (g_a G 0) :: st) V S :=
  j_get hd (cl := 0) (by decide) (rfl) (T := T_D) (N := 18) rfl in_D (k := 9) (by decide) rfl (g_use (List.mem_of_getElem? (i := 130) (by decide +kernel)) rfl) rfl kk
theorem gf_D_40 (hd : decode cc pc = .ok (.getfield 40, 3)) (kk : JW G X cc R_D (pc + 3) lv (.ref (g_a G 8) :: st) V S) : JW G X cc R_D pc lv (.ref (g_a G 0) :: st) V S :=
  j_get hd (cl := 0) (by decide) (rfl) (T := T_D) (N := 18) rfl in_D (k := 12) (by decide) rfl (g_use (List.mem_of_getElem? (i := 133) (by decide +kernel)) rfl) rfl kk
theorem gf_D_43 (hd : decode cc pc = .ok (.getfield 43, 3)) (kk : JW G X cc R_D (pc + 3) lv (.ref (g_a G 9) :: st) V S) : JW G X cc R_D pc lv (.ref (g_a G 0) :: st) V S :=
  j_get hd (cl := 0) (by decide) (rfl) (T := T_D) (N := 18) rfl in_D (k := 13) (by decide) rfl (g_use (List.mem_of_getElem? (i := 134) (by decide +kernel)) rfl) rfl kk
theorem gf_D_46 (hd : decode cc pc = .ok (.getfield 46, 3)) (kk : JW G X cc R_D (pc + 3) lv (.ref (g_a G 10) :: st) V S) : JW G X cc R_D pc lv (.ref (g_a G 0) :: st) V S :=
  j_get hd (cl := 0) (by decide) (rfl) (T := T_D) (N := 18) rfl in_D (k := 14) (by decide) rfl (g_use (List.mem_of_getElem? (i := 135) (by decide +kernel)) rfl) rfl kk
theorem gf_D_49 (hd : decode cc pc = .ok (.getfield 49, 3)) (kk : JW G X cc R_D (pc + 3) lv (.ref (g_a G 11) :: st) V S) : JW G X cc R_D pc lv (.ref (g_a G 0) :: st) V S :=
  j_get hd (cl := 0) (by decide) (rfl) (T := T_D) (N := 18) rfl in_D (k := 15) (by decide) rfl (g_use (List.mem_of_getElem? (i := 136) (by decide +kernel)) rfl) rfl kk
theorem gf_D_52 (hd : decode cc pc = .ok (.getfield 52, 3)) (kk : JW G X cc R_D (pc + 3) lv (.ref (g_a G 12) :: st) V S) : JW G X cc R_D pc lv (.ref (g_a G 0) :: st) V S :=
  j_get hd (cl := 0) (by decide) (rfl) (T := T_D) (N := 18) rfl in_D (k := 16) (by decide) rfl (g_use (List.mem_of_getElem? (i := 137) (by decide +kernel)) rfl) rfl kk
theorem gf_D_55 (hd : decode cc pc = .ok (.getfield 55, 3)) (kk : JW G X cc R_D (pc + 3) lv (.ref (g_a G 13) :: st) V S) : JW G X cc R_D pc lv (.ref (g_a G 0) :: st) V S :=
  j_get hd (cl := 0) (by decide) (rfl) (T := T_D) (N := 18) rfl in_D (k := 17) (by decide) rfl (g_use (List.mem_of_getElem? (i := 138) (by decide +kernel)) rfl) rfl kk
theorem gf_D_69 (hd : decode cc pc = .ok (.getfield 69, 3)) (kk : JW G X cc R_D (pc + 3) lv (.int (nI (V 0 1)) :: st) V S) : JW G X cc R_D pc lv (.ref (g_a G 0) :: st) V S :=
  j_get hd (cl := 0) (by decide) (rfl) (T := T_D) (N := 18) rfl in_D (k := 1) (by decide) rfl (g_use (List.mem_of_getElem? (i := 122) (by decide +kernel)) rfl) rfl kk
theorem pf_D_69 {x : Nat} (hd : decode cc pc = .ok (.putfield 69, 3)) (kk : JW G X cc R_D (pc + 3) lv st (g_up V 0 1 x) S) : JW G X cc R_D pc lv (.int (nI x) :: .ref (g_a G 0) :: st) V S :=
  j_put hd (cl := 0) (by decide) (rfl) (T := T_D) (N := 18) rfl in_D ty_D_ok nm_D (k := 1) (by decide) rfl (g_use (List.mem_of_getElem? (i := 122) (by decide +kernel)) rfl) rfl rfl rfl (Nat.le_of_ble_eq_true rfl) (fun c h => ⟨g_up_ne h, rfl⟩) rfl kk
theorem gf_D_72 (hd : decode cc pc = .ok (.getfield 72, 3)) (kk : JW G X cc R_D (pc + 3) lv (.int (nI (V 0 8)) :: st) V S) : JW G X cc R_D pc lv (.ref (g_a G 0) :: st) V S :=
  j_get hd (cl := 0) (by decide) (rfl) (T := T_D) (N := 18) rfl in_D (k := 8) (by decide) rfl (g_use (List.mem_of_getElem? (i := 129) (by decide +kernel)) rfl) rfl kk
theorem pf_D_72 {x : Nat} (hd : decode cc pc = .ok (.putfield 72, 3)) (kk : JW G X cc R_D (pc + 3) lv st (g_up V 0 8 x) S) : JW G X cc R_D pc lv (.int (nI x) :: .ref (g_a G 0) :: st) V S :=
  j_put hd (cl := 0) (by decide) (rfl) (T := T_D) (N := 18) rfl in_D ty_D_ok nm_D (k := 8) (by decide) rfl (g_use (List.mem_of_getElem? (i := 129) (by decide +kernel)) rfl) rfl rfl rfl (Nat.le_of_ble_eq_true rfl) (fun c h => ⟨g_up_ne h, rfl⟩) rfl kk
theorem gf_D_75 (hd : decode cc pc = .ok (.getfield 75, 3)) (kk : JW G X cc R_D (pc + 3) lv (.int (nI (V 0 10)) :: st) V S) : JW G X cc R_D pc lv (.ref (g_a G 0) :: st) V S :=
  j_get hd (cl := 0) (by decide) (rfl) (T := T_D) (N := 18) rfl in_D (k := 10) (by decide) rfl (g_use (List.mem_of_getElem? (i := 131) (by decide +kernel)) rfl) rfl kk
theorem pf_D_75 {x : Nat} (hd : decode cc pc = .ok (.putfield 75, 3)) (kk : JW G X cc R_D (pc + 3) lv st (g_up V 0 10 x) S) : JW G X cc R_D pc lv (.int (nI x) :: .ref (g_a G 0) :: st) V S :=
  j_put hd (cl := 0) (by decide) (rfl) (T := T_D) (N := 18) rfl in_D ty_D_ok nm_D (k := 10) (by decide) rfl (g_use (List.mem_of_getElem? (i := 131) (by decide +kernel)) rfl) rfl rfl rfl (Nat.le_of_ble_eq_true rfl) (fun c h => ⟨g_up_ne h, rfl⟩) rfl kk
theorem gs_D_89 : Cond.fieldLink R_D 89 R_D "GREATEST" "[I" ∈ lw_use := g_use (List.mem_of_getElem? (i := 235) (by decide +kernel)) rfl
theorem gf_M_13 (hd : decode cc pc = .ok (.getfield 13, 3)) (kk : JW G X cc R_M (pc + 3) lv (.ref (g_a G 203) :: st) V S) : JW G X cc R_M pc lv (.ref (g_a G 201) :: st) V S :=
  j_get hd (cl := 201) (by decide) (rfl) (T := T_M) (N := 24) rfl in_M (k := 5) (by decide) rfl (g_use (List.mem_of_getElem? (i := 476) (by decide +kernel)) rfl) rfl kk
theorem gf_M_137 (hd : decode cc pc = .ok (.getfield 137, 3)) (kk : JW G X cc R_M (pc + 3) lv (.int (nI (V 201 18)) :: st) V S) : JW G X cc R_M pc lv (.ref (g_a G 201) :: st) V S :=
  j_get hd (cl := 201) (by decide) (rfl) (T := T_M) (N := 24) rfl in_M (k := 18) (by decide) rfl (g_use (List.mem_of_getElem? (i := 489) (by decide +kernel)) rfl) rfl kk
theorem pf_M_137 {x : Nat} (hd : decode cc pc = .ok (.putfield 137, 3)) (kk : JW G X cc R_M (pc + 3) lv st (g_up V 201 18 x) S) : JW G X cc R_M pc lv (.int (nI x) :: .ref (g_a G 201) :: st) V S :=
  j_put hd (cl := 201) (by decide) (rfl) (T := T_M) (N := 24) rfl in_M ty_M_ok nm_M (k := 18) (by decide) rfl (g_use (List.mem_of_getElem? (i := 489) (by decide +kernel)) rfl) rfl rfl rfl (Nat.le_of_ble_eq_true rfl) (fun c h => ⟨g_up_ne h, rfl⟩) rfl kk
theorem gf_M_140 (hd : decode cc pc = .ok (.getfield 140, 3)) (kk : JW G X cc R_M (pc + 3) lv (.int (nI (V 201 19)) :: st) V S) : JW G X cc R_M pc lv (.ref (g_a G 201) :: st) V S :=
  j_get hd (cl := 201) (by decide) (rfl) (T := T_M) (N := 24) rfl in_M (k := 19) (by decide) rfl (g_use (List.mem_of_getElem? (i := 490) (by decide +kernel)) rfl) rfl kk
theorem pf_M_140 {x : Nat} (hd : decode cc pc = .ok (.putfield 140, 3)) (kk : JW G X cc R_M (pc + 3) lv st (g_up V 201 19 x) S) : JW G X cc R_M pc lv (.int (nI x) :: .ref (g_a G 201) :: st) V S :=
  j_put hd (cl := 201) (by decide) (rfl) (T := T_M) (N := 24) rfl in_M ty_M_ok nm_M (k := 19) (by decide) rfl (g_use (List.mem_of_getElem? (i := 490) (by decide +kernel)) rfl) rfl rfl rfl (Nat.le_of_ble_eq_true rfl) (fun c h => ⟨g_up_ne h, rfl⟩) rfl kk
theorem gf_M_16 (hd : decode cc pc = .ok (.getfield 16, 3)) (kk : JW G X cc R_M (pc + 3) lv (.ref (g_a G 204) :: st) V S) : JW G X cc R_M pc lv (.ref (g_a G 201) :: st) V S :=
  j_get hd (cl := 201) (by decide) (rfl) (T := T_M) (N := 24) rfl in_M (k := 6) (by decide) rfl (g_use (List.mem_of_getElem? (i := 477) (by decide +kernel)) rfl) rfl kk
theorem gf_M_189 (hd : decode cc pc = .ok (.getfield 189, 3)) (kk : JW G X cc R_M (pc + 3) lv (.int (nI (V 201 22)) :: st) V S) : JW G X cc R_M pc lv (.ref (g_a G 201) :: st) V S :=
  j_get hd (cl := 201) (by decide) (rfl) (T := T_M) (N := 24) rfl in_M (k := 22) (by decide) rfl (g_use (List.mem_of_getElem? (i := 493) (by decide +kernel)) rfl) rfl kk
theorem pf_M_189 {x : Nat} (hd : decode cc pc = .ok (.putfield 189, 3)) (kk : JW G X cc R_M (pc + 3) lv st (g_up V 201 22 x) S) : JW G X cc R_M pc lv (.int (nI x) :: .ref (g_a G 201) :: st) V S :=
  j_put hd (cl := 201) (by decide) (rfl) (T := T_M) (N := 24) rfl in_M ty_M_ok nm_M (k := 22) (by decide) rfl (g_use (List.mem_of_getElem? (i := 493) (by decide +kernel)) rfl) rfl rfl rfl (Nat.le_of_ble_eq_true rfl) (fun c h => ⟨g_up_ne h, rfl⟩) rfl kk
theorem gf_M_19 (hd : decode cc pc = .ok (.getfield 19, 3)) (kk : JW G X cc R_M (pc + 3) lv (.ref (g_a G 205) :: st) V S) : JW G X cc R_M pc lv (.ref (g_a G 201) :: st) V S :=
  j_get hd (cl := 201) (by decide) (rfl) (T := T_M) (N := 24) rfl in_M (k := 7) (by decide) rfl (g_use (List.mem_of_getElem? (i := 478) (by decide +kernel)) rfl) rfl kk
theorem gf_M_192 (hd : decode cc pc = .ok (.getfield 192, 3)) (kk : JW G X cc R_M (pc + 3) lv (.int (nI (V 201 23)) :: st) V S) : JW G X cc R_M pc lv (.ref (g_a G 201) :: st) V S :=
  j_get hd (cl := 201) (by decide) (rfl) (T := T_M) (N := 24) rfl in_M (k := 23) (by decide) rfl (g_use (List.mem_of_getElem? (i := 494) (by decide +kernel)) rfl) rfl kk
theorem pf_M_192 {x : Nat} (hd : decode cc pc = .ok (.putfield 192, 3)) (kk : JW G X cc R_M (pc + 3) lv st (g_up V 201 23 x) S) : JW G X cc R_M pc lv (.int (nI x) :: .ref (g_a G 201) :: st) V S :=
  j_put hd (cl := 201) (by decide) (rfl) (T := T_M) (N := 24) rfl in_M ty_M_ok nm_M (k := 23) (by decide) rfl (g_use (List.mem_of_getElem? (i := 494) (by decide +kernel)) rfl) rfl rfl rfl (Nat.le_of_ble_eq_true rfl) (fun c h => ⟨g_up_ne h, rfl⟩) rfl kk
theorem gf_M_205 (hd : decode cc pc = .ok (.getfield 205, 3)) (kk : JW G X cc R_M (pc + 3) lv (.long (S 201) :: st) V S) : JW G X cc R_M pc lv (.ref (g_a G 201) :: st) V S :=
  j_get hd (cl := 201) (by decide) (rfl) (T := T_M) (N := 24) rfl in_M (k := 17) (by decide) rfl (g_use (List.mem_of_getElem? (i := 488) (by decide +kernel)) rfl) rfl kk
theorem pf_M_205 {x : Int64} (hd : decode cc pc = .ok (.putfield 205, 3)) (kk : JW G X cc R_M (pc + 3) lv st V (g_upL S 201 x)) : JW G X cc R_M pc lv (.long x :: .ref (g_a G 201) :: st) V S :=
  j_put hd (cl := 201) (by decide) (rfl) (T := T_M) (N := 24) rfl in_M ty_M_ok nm_M (k := 17) (by decide) rfl (g_use (List.mem_of_getElem? (i := 488) (by decide +kernel)) rfl) rfl rfl rfl (Nat.le_of_ble_eq_true rfl) (fun c h => ⟨rfl, g_upL_ne h⟩) rfl kk
theorem gf_M_22 (hd : decode cc pc = .ok (.getfield 22, 3)) (kk : JW G X cc R_M (pc + 3) lv (.ref (g_a G 206) :: st) V S) : JW G X cc R_M pc lv (.ref (g_a G 201) :: st) V S :=
  j_get hd (cl := 201) (by decide) (rfl) (T := T_M) (N := 24) rfl in_M (k := 10) (by decide) rfl (g_use (List.mem_of_getElem? (i := 481) (by decide +kernel)) rfl) rfl kk
theorem gf_M_25 (hd : decode cc pc = .ok (.getfield 25, 3)) (kk : JW G X cc R_M (pc + 3) lv (.ref (g_a G 207) :: st) V S) : JW G X cc R_M pc lv (.ref (g_a G 201) :: st) V S :=
  j_get hd (cl := 201) (by decide) (rfl) (T := T_M) (N := 24) rfl in_M (k := 11) (by decide) rfl (g_use (List.mem_of_getElem? (i := 482) (by decide +kernel)) rfl) rfl kk
theorem gf_M_28 (hd : decode cc pc = .ok (.getfield 28, 3)) (kk : JW G X cc R_M (pc + 3) lv (.ref (g_a G 208) :: st) V S) : JW G X cc R_M pc lv (.ref (g_a G 201) :: st) V S :=
  j_get hd (cl := 201) (by decide) (rfl) (T := T_M) (N := 24) rfl in_M (k := 12) (by decide) rfl (g_use (List.mem_of_getElem? (i := 483) (by decide +kernel)) rfl) rfl kk
theorem gf_M_31 (hd : decode cc pc = .ok (.getfield 31, 3)) (kk : JW G X cc R_M (pc + 3) lv (.ref (g_a G 209) :: st) V S) : JW G X cc R_M pc lv (.ref (g_a G 201) :: st) V S :=
  j_get hd (cl := 201) (by decide) (rfl) (T := T_M) (N := 24) rfl in_M (k := 13) (by decide) rfl (g_use (List.mem_of_getElem? (i := 484) (by decide +kernel)) rfl) rfl kk
theorem gf_M_34 (hd : decode cc pc = .ok (.getfield 34, 3)) (kk : JW G X cc R_M (pc + 3) lv (.ref (g_a G 210) :: st) V S) : JW G X cc R_M pc lv (.ref (g_a G 201) :: st) V S :=
  j_get hd (cl := 201) (by decide) (rfl) (T := T_M) (N := 24) rfl in_M (k := 15) (by decide) rfl (g_use (List.mem_of_getElem? (i := 486) (by decide +kernel)) rfl) rfl kk
theorem gf_M_37 (hd : decode cc pc = .ok (.getfield 37, 3)) (kk : JW G X cc R_M (pc + 3) lv (.ref (g_a G 211) :: st) V S) : JW G X cc R_M pc lv (.ref (g_a G 201) :: st) V S :=
  j_get hd (cl := 201) (by decide) (rfl) (T := T_M) (N := 24) rfl in_M (k := 16) (by decide) rfl (g_use (List.mem_of_getElem? (i := 487) (by decide +kernel)) rfl) rfl kk
theorem gf_M_41 (hd : decode cc pc = .ok (.getfield 41, 3)) (kk : JW G X cc R_M (pc + 3) lv (.ref (g_a G 212) :: st) V S) : JW G X cc R_M pc lv (.ref (g_a G 201) :: st) V S :=
  j_get hd (cl := 201) (by decide) (rfl) (T := T_M) (N := 24) rfl in_M (k := 20) (by decide) rfl (g_use (List.mem_of_getElem? (i := 491) (by decide +kernel)) rfl) rfl kk
theorem gf_M_44 (hd : decode cc pc = .ok (.getfield 44, 3)) (kk : JW G X cc R_M (pc + 3) lv (.ref (g_a G 213) :: st) V S) : JW G X cc R_M pc lv (.ref (g_a G 201) :: st) V S :=
  j_get hd (cl := 201) (by decide) (rfl) (T := T_M) (N := 24) rfl in_M (k := 21) (by decide) rfl (g_use (List.mem_of_getElem? (i := 492) (by decide +kernel)) rfl) rfl kk
theorem gf_M_47 (hd : decode cc pc = .ok (.getfield 47, 3)) (kk : JW G X cc R_M (pc + 3) lv (.int (nI (V 201 0)) :: st) V S) : JW G X cc R_M pc lv (.ref (g_a G 201) :: st) V S :=
  j_get hd (cl := 201) (by decide) (rfl) (T := T_M) (N := 24) rfl in_M (k := 0) (by decide) rfl (g_use (List.mem_of_getElem? (i := 471) (by decide +kernel)) rfl) rfl kk
theorem pf_M_47 {x : Nat} (hd : decode cc pc = .ok (.putfield 47, 3)) (kk : JW G X cc R_M (pc + 3) lv st (g_up V 201 0 x) S) : JW G X cc R_M pc lv (.int (nI x) :: .ref (g_a G 201) :: st) V S :=
  j_put hd (cl := 201) (by decide) (rfl) (T := T_M) (N := 24) rfl in_M ty_M_ok nm_M (k := 0) (by decide) rfl (g_use (List.mem_of_getElem? (i := 471) (by decide +kernel)) rfl) rfl rfl rfl (Nat.le_of_ble_eq_true rfl) (fun c h => ⟨g_up_ne h, rfl⟩) rfl kk
theorem gf_M_51 (hd : decode cc pc = .ok (.getfield 51, 3)) (kk : JW G X cc R_M (pc + 3) lv (.int (nI (V 201 4)) :: st) V S) : JW G X cc R_M pc lv (.ref (g_a G 201) :: st) V S :=
  j_get hd (cl := 201) (by decide) (rfl) (T := T_M) (N := 24) rfl in_M (k := 4) (by decide) rfl (g_use (List.mem_of_getElem? (i := 475) (by decide +kernel)) rfl) rfl kk
theorem pf_M_51 {x : Nat} (hd : decode cc pc = .ok (.putfield 51, 3)) (kk : JW G X cc R_M (pc + 3) lv st (g_up V 201 4 x) S) : JW G X cc R_M pc lv (.int (nI x) :: .ref (g_a G 201) :: st) V S :=
  j_put hd (cl := 201) (by decide) (rfl) (T := T_M) (N := 24) rfl in_M ty_M_ok nm_M (k := 4) (by decide) rfl (g_use (List.mem_of_getElem? (i := 475) (by decide +kernel)) rfl) rfl rfl rfl (Nat.le_of_ble_eq_true rfl) (fun c h => ⟨g_up_ne h, rfl⟩) rfl kk
theorem gf_M_62 (hd : decode cc pc = .ok (.getfield 62, 3)) (kk : JW G X cc R_M (pc + 3) lv (.int (nI (V 201 2)) :: st) V S) : JW G X cc R_M pc lv (.ref (g_a G 201) :: st) V S :=
  j_get hd (cl := 201) (by decide) (rfl) (T := T_M) (N := 24) rfl in_M (k := 2) (by decide) rfl (g_use (List.mem_of_getElem? (i := 473) (by decide +kernel)) rfl) rfl kk
theorem pf_M_62 {x : Nat} (hd : decode cc pc = .ok (.putfield 62, 3)) (kk : JW G X cc R_M (pc + 3) lv st (g_up V 201 2 x) S) : JW G X cc R_M pc lv (.int (nI x) :: .ref (g_a G 201) :: st) V S :=
  j_put hd (cl := 201) (by decide) (rfl) (T := T_M) (N := 24) rfl in_M ty_M_ok nm_M (k := 2) (by decide) rfl (g_use (List.mem_of_getElem? (i := 473) (by decide +kernel)) rfl) rfl rfl rfl (Nat.le_of_ble_eq_true rfl) (fun c h => ⟨g_up_ne h, rfl⟩) rfl kk
theorem gf_M_65 (hd : decode cc pc = .ok (.getfield 65, 3)) (kk : JW G X cc R_M (pc + 3) lv (.int (nI (V 201 3)) :: st) V S) : JW G X cc R_M pc lv (.ref (g_a G 201) :: st) V S :=
  j_get hd (cl := 201) (by decide) (rfl) (T := T_M) (N := 24) rfl in_M (k := 3) (by decide) rfl (g_use (List.mem_of_getElem? (i := 474) (by decide +kernel)) rfl) rfl kk
theorem pf_M_65 {x : Nat} (hd : decode cc pc = .ok (.putfield 65, 3)) (kk : JW G X cc R_M (pc + 3) lv st (g_up V 201 3 x) S) : JW G X cc R_M pc lv (.int (nI x) :: .ref (g_a G 201) :: st) V S :=
  j_put hd (cl := 201) (by decide) (rfl) (T := T_M) (N := 24) rfl in_M ty_M_ok nm_M (k := 3) (by decide) rfl (g_use (List.mem_of_getElem? (i := 474) (by decide +kernel)) rfl) rfl rfl rfl (Nat.le_of_ble_eq_true rfl) (fun c h => ⟨g_up_ne h, rfl⟩) rfl kk
theorem gf_M_68 (hd : decode cc pc = .ok (.getfield 68, 3)) (kk : JW G X cc R_M (pc + 3) lv (.int (nI (V 201 8)) :: st) V S) : JW G X cc R_M pc lv (.ref (g_a G 201) :: st) V S :=
  j_get hd (cl := 201) (by decide) (rfl) (T := T_M) (N := 24) rfl in_M (k := 8) (by decide) rfl (g_use (List.mem_of_getElem? (i := 479) (by decide +kernel)) rfl) rfl kk
theorem pf_M_68 {x : Nat} (hd : decode cc pc = .ok (.putfield 68, 3)) (kk : JW G X cc R_M (pc + 3) lv st (g_up V 201 8 x) S) : JW G X cc R_M pc lv (.int (nI x) :: .ref (g_a G 201) :: st) V S :=
  j_put hd (cl := 201) (by decide) (rfl) (T := T_M) (N := 24) rfl in_M ty_M_ok nm_M (k := 8) (by decide) rfl (g_use (List.mem_of_getElem? (i := 479) (by decide +kernel)) rfl) rfl rfl rfl (Nat.le_of_ble_eq_true rfl) (fun c h => ⟨g_up_ne h, rfl⟩) rfl kk
theorem gf_M_7 (hd : decode cc pc = .ok (.getfield 7, 3)) (kk : JW G X cc R_M (pc + 3) lv (.ref (g_a G 202) :: st) V S) : JW G X cc R_M pc lv (.ref (g_a G 201) :: st) V S :=
  j_get hd (cl := 201) (by decide) (rfl) (T := T_M) (N := 24) rfl in_M (k := 1) (by decide) rfl (g_use (List.mem_of_getElem? (i := 472) (by decide +kernel)) rfl) rfl kk
theorem gf_M_75 (hd : decode cc pc = .ok (.getfield 75, 3)) (kk : JW G X cc R_M (pc + 3) lv (.int (nI (V 201 9)) :: st) V S) : JW G X cc R_M pc lv (.ref (g_a G 201) :: st) V S :=
  j_get hd (cl := 201) (by decide) (rfl) (T := T_M) (N := 24) rfl in_M (k := 9) (by decide) rfl (g_use (List.mem_of_getElem? (i := 480) (by decide +kernel)) rfl) rfl kk
theorem pf_M_75 {x : Nat} (hd : decode cc pc = .ok (.putfield 75, 3)) (kk : JW G X cc R_M (pc + 3) lv st (g_up V 201 9 x) S) : JW G X cc R_M pc lv (.int (nI x) :: .ref (g_a G 201) :: st) V S :=
  j_put hd (cl := 201) (by decide) (rfl) (T := T_M) (N := 24) rfl in_M ty_M_ok nm_M (k := 9) (by decide) rfl (g_use (List.mem_of_getElem? (i := 480) (by decide +kernel)) rfl) rfl rfl rfl (Nat.le_of_ble_eq_true rfl) (fun c h => ⟨g_up_ne h, rfl⟩) rfl kk
theorem gf_M_98 (hd : decode cc pc = .ok (.getfield 98, 3)) (kk : JW G X cc R_M (pc + 3) lv (.int (nI (V 201 14)) :: st) V S) : JW G X cc R_M pc lv (.ref (g_a G 201) :: st) V S :=
  j_get hd (cl := 201) (by decide) (rfl) (T := T_M) (N := 24) rfl in_M (k := 14) (by decide) rfl (g_use (List.mem_of_getElem? (i := 485) (by decide +kernel)) rfl) rfl kk
theorem pf_M_98 {x : Nat} (hd : decode cc pc = .ok (.putfield 98, 3)) (kk : JW G X cc R_M (pc + 3) lv st (g_up V 201 14 x) S) : JW G X cc R_M pc lv (.int (nI x) :: .ref (g_a G 201) :: st) V S :=
  j_put hd (cl := 201) (by decide) (rfl) (T := T_M) (N := 24) rfl in_M ty_M_ok nm_M (k := 14) (by decide) rfl (g_use (List.mem_of_getElem? (i := 485) (by decide +kernel)) rfl) rfl rfl rfl (Nat.le_of_ble_eq_true rfl) (fun c h => ⟨g_up_ne h, rfl⟩) rfl kk
theorem gs_S_23 : Cond.fieldLinkNest R_S 23 R_D "GREATEST" "[I" "DykeFarms" ∈ lw_use := g_use (List.mem_of_getElem? (i := 200) (by decide +kernel)) rfl
theorem gf_D_101 (hj : j < 17) (hd : decode cc pc = .ok (.getfield 101, 3)) (kk : JW G X cc R_D (pc + 3) lv (.int (nI (V (hB j) 4)) :: st) V S) : JW G X cc R_D pc lv (.ref (g_a G (hB j)) :: st) V S :=
  j_getN hd (host := "DykeFarms") (cl := (hB j)) (hB_lt (r := 0) hj (by decide)) (g_E_held (r := 0) hj (by decide)) (T := T_H) (N := 7) rfl in_H (k := 4) (by decide) rfl (g_use (List.mem_of_getElem? (i := 100) (by decide +kernel)) rfl) rfl kk
theorem pf_D_101 (hj : j < 17) {x : Nat} (hd : decode cc pc = .ok (.putfield 101, 3)) (kk : JW G X cc R_D (pc + 3) lv st (g_up V (hB j) 4 x) S) : JW G X cc R_D pc lv (.int (nI x) :: .ref (g_a G (hB j)) :: st) V S :=
  j_putN hd (host := "DykeFarms") (cl := (hB j)) (hB_lt (r := 0) hj (by decide)) (g_E_held (r := 0) hj (by decide)) (T := T_H) (N := 7) rfl in_H ty_H_ok nm_H (k := 4) (by decide) rfl (g_use (List.mem_of_getElem? (i := 100) (by decide +kernel)) rfl) rfl rfl rfl (Nat.le_of_ble_eq_true rfl) (fun c h => ⟨g_up_ne h, rfl⟩) (by rw [show g_E G (g_up V (hB j) 4 x (hB j)) (S (hB j)) (hB j) = g_held G (g_up V (hB j) 4 x (hB j)) (hB j) 0 from g_E_held (r := 0) hj (by decide)]; simp [g_held, g_up]) kk
theorem gf_D_104 (hj : j < 17) (hd : decode cc pc = .ok (.getfield 104, 3)) (kk : JW G X cc R_D (pc + 3) lv (.int (nI (V (hB j) 6)) :: st) V S) : JW G X cc R_D pc lv (.ref (g_a G (hB j)) :: st) V S :=
  j_getN hd (host := "DykeFarms") (cl := (hB j)) (hB_lt (r := 0) hj (by decide)) (g_E_held (r := 0) hj (by decide)) (T := T_H) (N := 7) rfl in_H (k := 6) (by decide) rfl (g_use (List.mem_of_getElem? (i := 104) (by decide +kernel)) rfl) rfl kk
theorem pf_D_104 (hj : j < 17) {x : Nat} (hd : decode cc pc = .ok (.putfield 104, 3)) (kk : JW G X cc R_D (pc + 3) lv st (g_up V (hB j) 6 x) S) : JW G X cc R_D pc lv (.int (nI x) :: .ref (g_a G (hB j)) :: st) V S :=
  j_putN hd (host := "DykeFarms") (cl := (hB j)) (hB_lt (r := 0) hj (by decide)) (g_E_held (r := 0) hj (by decide)) (T := T_H) (N := 7) rfl in_H ty_H_ok nm_H (k := 6) (by decide) rfl (g_use (List.mem_of_getElem? (i := 104) (by decide +kernel)) rfl) rfl rfl rfl (Nat.le_of_ble_eq_true rfl) (fun c h => ⟨g_up_ne h, rfl⟩) (by rw [show g_E G (g_up V (hB j) 6 x (hB j)) (S (hB j)) (hB j) = g_held G (g_up V (hB j) 6 x (hB j)) (hB j) 0 from g_E_held (r := 0) hj (by decide)]; simp [g_held, g_up]) kk
theorem gf_D_117 (hj : j < 17) (hd : decode cc pc = .ok (.getfield 117, 3)) (kk : JW G X cc R_D (pc + 3) lv (.ref (g_a G (hB j + 1)) :: st) V S) : JW G X cc R_D pc lv (.ref (g_a G (hB j)) :: st) V S :=
  j_getN hd (host := "DykeFarms") (cl := (hB j)) (hB_lt (r := 0) hj (by decide)) (g_E_held (r := 0) hj (by decide)) (T := T_H) (N := 7) rfl in_H (k := 0) (by decide) rfl (g_use (List.mem_of_getElem? (i := 92) (by decide +kernel)) rfl) rfl kk
theorem gf_D_120 (hj : j < 17) (hd : decode cc pc = .ok (.getfield 120, 3)) (kk : JW G X cc R_D (pc + 3) lv (.ref (g_a G (hB j + 2)) :: st) V S) : JW G X cc R_D pc lv (.ref (g_a G (hB j)) :: st) V S :=
  j_getN hd (host := "DykeFarms") (cl := (hB j)) (hB_lt (r := 0) hj (by decide)) (g_E_held (r := 0) hj (by decide)) (T := T_H) (N := 7) rfl in_H (k := 1) (by decide) rfl (g_use (List.mem_of_getElem? (i := 94) (by decide +kernel)) rfl) rfl kk
theorem gf_D_123 (hj : j < 17) (hd : decode cc pc = .ok (.getfield 123, 3)) (kk : JW G X cc R_D (pc + 3) lv (.ref (g_a G (hB j + 3)) :: st) V S) : JW G X cc R_D pc lv (.ref (g_a G (hB j)) :: st) V S :=
  j_getN hd (host := "DykeFarms") (cl := (hB j)) (hB_lt (r := 0) hj (by decide)) (g_E_held (r := 0) hj (by decide)) (T := T_H) (N := 7) rfl in_H (k := 2) (by decide) rfl (g_use (List.mem_of_getElem? (i := 96) (by decide +kernel)) rfl) rfl kk
theorem gf_D_130 (hj : j < 17) (hd : decode cc pc = .ok (.getfield 130, 3)) (kk : JW G X cc R_D (pc + 3) lv (.ref (g_a G (hB j + 4)) :: st) V S) : JW G X cc R_D pc lv (.ref (g_a G (hB j)) :: st) V S :=
  j_getN hd (host := "DykeFarms") (cl := (hB j)) (hB_lt (r := 0) hj (by decide)) (g_E_held (r := 0) hj (by decide)) (T := T_H) (N := 7) rfl in_H (k := 3) (by decide) rfl (g_use (List.mem_of_getElem? (i := 98) (by decide +kernel)) rfl) rfl kk
theorem gf_D_58 (hd : decode cc pc = .ok (.getfield 58, 3)) (kk : JW G X cc R_D (pc + 3) lv (.int (nI (V 1 1)) :: st) V S) : JW G X cc R_D pc lv (.ref (g_a G 1) :: st) V S :=
  j_getN hd (host := "DykeFarms") (cl := 1) (by decide) (rfl) (T := T_S) (N := 2) rfl in_S (k := 1) (by decide) rfl (g_use (List.mem_of_getElem? (i := 76) (by decide +kernel)) rfl) rfl kk
theorem pf_D_58 {x : Nat} (hd : decode cc pc = .ok (.putfield 58, 3)) (kk : JW G X cc R_D (pc + 3) lv st (g_up V 1 1 x) S) : JW G X cc R_D pc lv (.int (nI x) :: .ref (g_a G 1) :: st) V S :=
  j_putN hd (host := "DykeFarms") (cl := 1) (by decide) (rfl) (T := T_S) (N := 2) rfl in_S ty_S_ok nm_S (k := 1) (by decide) rfl (g_use (List.mem_of_getElem? (i := 76) (by decide +kernel)) rfl) rfl rfl rfl (Nat.le_of_ble_eq_true rfl) (fun c h => ⟨g_up_ne h, rfl⟩) rfl kk
theorem gf_D_62 (hd : decode cc pc = .ok (.getfield 62, 3)) (kk : JW G X cc R_D (pc + 3) lv (.ref (g_a G 2) :: st) V S) : JW G X cc R_D pc lv (.ref (g_a G 1) :: st) V S :=
  j_getN hd (host := "DykeFarms") (cl := 1) (by decide) (rfl) (T := T_S) (N := 2) rfl in_S (k := 0) (by decide) rfl (g_use (List.mem_of_getElem? (i := 74) (by decide +kernel)) rfl) rfl kk
theorem gf_D_92 (hj : j < 17) (hd : decode cc pc = .ok (.getfield 92, 3)) (kk : JW G X cc R_D (pc + 3) lv (.int (nI (V (hB j) 5)) :: st) V S) : JW G X cc R_D pc lv (.ref (g_a G (hB j)) :: st) V S :=
  j_getN hd (host := "DykeFarms") (cl := (hB j)) (hB_lt (r := 0) hj (by decide)) (g_E_held (r := 0) hj (by decide)) (T := T_H) (N := 7) rfl in_H (k := 5) (by decide) rfl (g_use (List.mem_of_getElem? (i := 102) (by decide +kernel)) rfl) rfl kk
theorem pf_D_92 (hj : j < 17) {x : Nat} (hd : decode cc pc = .ok (.putfield 92, 3)) (kk : JW G X cc R_D (pc + 3) lv st (g_up V (hB j) 5 x) S) : JW G X cc R_D pc lv (.int (nI x) :: .ref (g_a G (hB j)) :: st) V S :=
  j_putN hd (host := "DykeFarms") (cl := (hB j)) (hB_lt (r := 0) hj (by decide)) (g_E_held (r := 0) hj (by decide)) (T := T_H) (N := 7) rfl in_H ty_H_ok nm_H (k := 5) (by decide) rfl (g_use (List.mem_of_getElem? (i := 102) (by decide +kernel)) rfl) rfl rfl rfl (Nat.le_of_ble_eq_true rfl) (fun c h => ⟨g_up_ne h, rfl⟩) (by rw [show g_E G (g_up V (hB j) 5 x (hB j)) (S (hB j)) (hB j) = g_held G (g_up V (hB j) 5 x (hB j)) (hB j) 0 from g_E_held (r := 0) hj (by decide)]; simp [g_held, g_up]) kk
theorem cl_H_26 (M : g_C G X.1 y_A_fill b_A_fill 4 none d2 As V S post2) (hd : decode cc pc = .ok (.invokestatic 26, 3)) (hst : st0 = As.reverse ++ st) (hlen : As.length = 2) (hF : g_ft X d2) (hcat : (st.map fun v => v.category).sum ≤ 8) (kk : ∀ (v : Option Value) (V' : g_V) (S' : g_L), post2 v V' S' → JW G X cc R_H (pc + 3) lv (v.toList ++ st) V' S') : JW G X cc R_H pc lv st0 V S :=
  j_callS M hd hst (g_use (List.mem_of_getElem? (i := 226) (by decide +kernel)) rfl) (g_use (List.mem_of_getElem? (i := 227) (by decide +kernel)) rfl) (g_use (List.mem_of_getElem? (i := 57) (by decide +kernel)) rfl) mc_A_fill ⟨by decide +kernel, by decide +kernel, by rw [hlen]; decide +kernel⟩ ⟨hF.1.1, by have := hF.1.2; omega⟩ hF.2 hcat kk
theorem cl_S_19 (M : g_C G X.1 y_S_letterAt b_S_letterAt 3 (some .int) d2 (.ref (g_a G 1) :: As) V S post2) (hd : decode cc pc = .ok (.invokevirtual 19, 3)) (hst : st0 = As.reverse ++ .ref (g_a G 1) :: st) (hlen : As.length = 1) (hF : g_ft X d2) (hcat : (st.map fun v => v.category).sum ≤ 8) (kk : ∀ (v : Option Value) (V' : g_V) (S' : g_L), post2 v V' S' → JW G X cc R_S (pc + 3) lv (v.toList ++ st) V' S') : JW G X cc R_S pc lv st0 V S :=
  j_callV M hd hst (cl := 1) (by decide) (rfl) (T := T_S) (N := 2) (ci := 1) rfl (g_use (List.mem_of_getElem? (i := 192) (by decide +kernel)) rfl) (g_use (List.mem_of_getElem? (i := 194) (by decide +kernel)) rfl) (g_use (List.mem_of_getElem? (i := 1) (by decide +kernel)) rfl) (g_use (List.mem_of_getElem? (i := 53) (by decide +kernel)) rfl) mc_S_letterAt ⟨by decide +kernel, by decide +kernel, by rw [hlen]; decide +kernel⟩ ⟨hF.1.1, by have := hF.1.2; omega⟩ hF.2 hcat kk
theorem cl_S_26 (M : g_C G X.1 y_S_figureAt b_S_figureAt 3 (some .int) d2 (.ref (g_a G 1) :: As) V S post2) (hd : decode cc pc = .ok (.invokevirtual 26, 3)) (hst : st0 = As.reverse ++ .ref (g_a G 1) :: st) (hlen : As.length = 1) (hF : g_ft X d2) (hcat : (st.map fun v => v.category).sum ≤ 8) (kk : ∀ (v : Option Value) (V' : g_V) (S' : g_L), post2 v V' S' → JW G X cc R_S (pc + 3) lv (v.toList ++ st) V' S') : JW G X cc R_S pc lv st0 V S :=
  j_callV M hd hst (cl := 1) (by decide) (rfl) (T := T_S) (N := 2) (ci := 1) rfl (g_use (List.mem_of_getElem? (i := 202) (by decide +kernel)) rfl) (g_use (List.mem_of_getElem? (i := 204) (by decide +kernel)) rfl) (g_use (List.mem_of_getElem? (i := 3) (by decide +kernel)) rfl) (g_use (List.mem_of_getElem? (i := 53) (by decide +kernel)) rfl) mc_S_figureAt ⟨by decide +kernel, by decide +kernel, by rw [hlen]; decide +kernel⟩ ⟨hF.1.1, by have := hF.1.2; omega⟩ hF.2 hcat kk
theorem cl_S_29 (M : g_C G X.1 y_S_rightFigures b_S_rightFigures 4 (some .int) d2 (.ref (g_a G 1) :: As) V S post2) (hd : decode cc pc = .ok (.invokevirtual 29, 3)) (hst : st0 = As.reverse ++ .ref (g_a G 1) :: st) (hlen : As.length = 1) (hF : g_ft X d2) (hcat : (st.map fun v => v.category).sum ≤ 8) (kk : ∀ (v : Option Value) (V' : g_V) (S' : g_L), post2 v V' S' → JW G X cc R_S (pc + 3) lv (v.toList ++ st) V' S') : JW G X cc R_S pc lv st0 V S :=
  j_callV M hd hst (cl := 1) (by decide) (rfl) (T := T_S) (N := 2) (ci := 1) rfl (g_use (List.mem_of_getElem? (i := 196) (by decide +kernel)) rfl) (g_use (List.mem_of_getElem? (i := 198) (by decide +kernel)) rfl) (g_use (List.mem_of_getElem? (i := 2) (by decide +kernel)) rfl) (g_use (List.mem_of_getElem? (i := 53) (by decide +kernel)) rfl) mc_S_rightFigures ⟨by decide +kernel, by decide +kernel, by rw [hlen]; decide +kernel⟩ ⟨hF.1.1, by have := hF.1.2; omega⟩ hF.2 hcat kk
theorem cl_S_32 (M : g_C G X.1 y_I_bitCount b_I_bitCount 1 (some .int) d2 As V S post2) (hd : decode cc pc = .ok (.invokestatic 32, 3)) (hst : st0 = As.reverse ++ st) (hlen : As.length = 1) (hF : g_ft X d2) (hcat : (st.map fun v => v.category).sum ≤ 8) (kk : ∀ (v : Option Value) (V' : g_V) (S' : g_L), post2 v V' S' → JW G X cc R_S (pc + 3) lv (v.toList ++ st) V' S') : JW G X cc R_S pc lv st0 V S :=
  j_callS M hd hst (g_use (List.mem_of_getElem? (i := 206) (by decide +kernel)) rfl) (g_use (List.mem_of_getElem? (i := 207) (by decide +kernel)) rfl) (g_use (List.mem_of_getElem? (i := 56) (by decide +kernel)) rfl) mc_I_bitCount ⟨by decide +kernel, by decide +kernel, by rw [hlen]; decide +kernel⟩ ⟨hF.1.1, by have := hF.1.2; omega⟩ hF.2 hcat kk
theorem cl_D_107 (M : g_C G X.1 y_D_everyFarm b_D_everyFarm 1 (some .int) d2 (.ref (g_a G 0) :: As) V S post2) (hd : decode cc pc = .ok (.invokevirtual 107, 3)) (hst : st0 = As.reverse ++ .ref (g_a G 0) :: st) (hlen : As.length = 0) (hF : g_ft X d2) (hcat : (st.map fun v => v.category).sum ≤ 8) (kk : ∀ (v : Option Value) (V' : g_V) (S' : g_L), post2 v V' S' → JW G X cc R_D (pc + 3) lv (v.toList ++ st) V' S') : JW G X cc R_D pc lv st0 V S :=
  j_callV M hd hst (cl := 0) (by decide) (rfl) (T := T_D) (N := 18) (ci := 0) rfl (g_use (List.mem_of_getElem? (i := 241) (by decide +kernel)) rfl) (g_use (List.mem_of_getElem? (i := 243) (by decide +kernel)) rfl) (g_use (List.mem_of_getElem? (i := 6) (by decide +kernel)) rfl) (g_use (List.mem_of_getElem? (i := 52) (by decide +kernel)) rfl) mc_D_everyFarm ⟨by decide +kernel, by decide +kernel, by rw [hlen]; decide +kernel⟩ ⟨hF.1.1, by have := hF.1.2; omega⟩ hF.2 hcat kk
theorem cl_D_110 (M : g_C G X.1 y_D_clayOf b_D_clayOf 4 (some .int) d2 (.ref (g_a G 0) :: As) V S post2) (hd : decode cc pc = .ok (.invokevirtual 110, 3)) (hst : st0 = As.reverse ++ .ref (g_a G 0) :: st) (hlen : As.length = 1) (hF : g_ft X d2) (hcat : (st.map fun v => v.category).sum ≤ 8) (kk : ∀ (v : Option Value) (V' : g_V) (S' : g_L), post2 v V' S' → JW G X cc R_D (pc + 3) lv (v.toList ++ st) V' S') : JW G X cc R_D pc lv st0 V S :=
  j_callV M hd hst (cl := 0) (by decide) (rfl) (T := T_D) (N := 18) (ci := 0) rfl (g_use (List.mem_of_getElem? (i := 245) (by decide +kernel)) rfl) (g_use (List.mem_of_getElem? (i := 247) (by decide +kernel)) rfl) (g_use (List.mem_of_getElem? (i := 7) (by decide +kernel)) rfl) (g_use (List.mem_of_getElem? (i := 52) (by decide +kernel)) rfl) mc_D_clayOf ⟨by decide +kernel, by decide +kernel, by rw [hlen]; decide +kernel⟩ ⟨hF.1.1, by have := hF.1.2; omega⟩ hF.2 hcat kk
theorem cl_D_113 (M : g_C G X.1 y_D_isFarm b_D_isFarm 2 (some .boolean) d2 (.ref (g_a G 0) :: As) V S post2) (hd : decode cc pc = .ok (.invokevirtual 113, 3)) (hst : st0 = As.reverse ++ .ref (g_a G 0) :: st) (hlen : As.length = 1) (hF : g_ft X d2) (hcat : (st.map fun v => v.category).sum ≤ 8) (kk : ∀ (v : Option Value) (V' : g_V) (S' : g_L), post2 v V' S' → JW G X cc R_D (pc + 3) lv (v.toList ++ st) V' S') : JW G X cc R_D pc lv st0 V S :=
  j_callV M hd hst (cl := 0) (by decide) (rfl) (T := T_D) (N := 18) (ci := 0) rfl (g_use (List.mem_of_getElem? (i := 254) (by decide +kernel)) rfl) (g_use (List.mem_of_getElem? (i := 256) (by decide +kernel)) rfl) (g_use (List.mem_of_getElem? (i := 8) (by decide +kernel)) rfl) (g_use (List.mem_of_getElem? (i := 52) (by decide +kernel)) rfl) mc_D_isFarm ⟨by decide +kernel, by decide +kernel, by rw [hlen]; decide +kernel⟩ ⟨hF.1.1, by have := hF.1.2; omega⟩ hF.2 hcat kk
theorem cl_D_126 (M : g_C G X.1 y_D_strengthAt b_D_strengthAt 3 (some .int) d2 (.ref (g_a G 0) :: As) V S post2) (hd : decode cc pc = .ok (.invokevirtual 126, 3)) (hst : st0 = As.reverse ++ .ref (g_a G 0) :: st) (hlen : As.length = 2) (hF : g_ft X d2) (hcat : (st.map fun v => v.category).sum ≤ 8) (kk : ∀ (v : Option Value) (V' : g_V) (S' : g_L), post2 v V' S' → JW G X cc R_D (pc + 3) lv (v.toList ++ st) V' S') : JW G X cc R_D pc lv st0 V S :=
  j_callV M hd hst (cl := 0) (by decide) (rfl) (T := T_D) (N := 18) (ci := 0) rfl (g_use (List.mem_of_getElem? (i := 258) (by decide +kernel)) rfl) (g_use (List.mem_of_getElem? (i := 260) (by decide +kernel)) rfl) (g_use (List.mem_of_getElem? (i := 9) (by decide +kernel)) rfl) (g_use (List.mem_of_getElem? (i := 52) (by decide +kernel)) rfl) mc_D_strengthAt ⟨by decide +kernel, by decide +kernel, by rw [hlen]; decide +kernel⟩ ⟨hF.1.1, by have := hF.1.2; omega⟩ hF.2 hcat kk
theorem cl_D_134 (M : g_C G X.1 y_D_isStorm b_D_isStorm 1 (some .boolean) d2 As V S post2) (hd : decode cc pc = .ok (.invokestatic 134, 3)) (hst : st0 = As.reverse ++ st) (hlen : As.length = 1) (hF : g_ft X d2) (hcat : (st.map fun v => v.category).sum ≤ 8) (kk : ∀ (v : Option Value) (V' : g_V) (S' : g_L), post2 v V' S' → JW G X cc R_D (pc + 3) lv (v.toList ++ st) V' S') : JW G X cc R_D pc lv st0 V S :=
  j_callS M hd hst (g_use (List.mem_of_getElem? (i := 270) (by decide +kernel)) rfl) (g_use (List.mem_of_getElem? (i := 271) (by decide +kernel)) rfl) (g_use (List.mem_of_getElem? (i := 52) (by decide +kernel)) rfl) mc_D_isStorm ⟨by decide +kernel, by decide +kernel, by rw [hlen]; decide +kernel⟩ ⟨hF.1.1, by have := hF.1.2; omega⟩ hF.2 hcat kk
theorem cl_D_137 (M : g_C G X.1 y_D_remember b_D_remember 1 none d2 (.ref (g_a G 0) :: As) V S post2) (hd : decode cc pc = .ok (.invokevirtual 137, 3)) (hst : st0 = As.reverse ++ .ref (g_a G 0) :: st) (hlen : As.length = 0) (hF : g_ft X d2) (hcat : (st.map fun v => v.category).sum ≤ 8) (kk : ∀ (v : Option Value) (V' : g_V) (S' : g_L), post2 v V' S' → JW G X cc R_D (pc + 3) lv (v.toList ++ st) V' S') : JW G X cc R_D pc lv st0 V S :=
  j_callV M hd hst (cl := 0) (by decide) (rfl) (T := T_D) (N := 18) (ci := 0) rfl (g_use (List.mem_of_getElem? (i := 273) (by decide +kernel)) rfl) (g_use (List.mem_of_getElem? (i := 275) (by decide +kernel)) rfl) (g_use (List.mem_of_getElem? (i := 10) (by decide +kernel)) rfl) (g_use (List.mem_of_getElem? (i := 52) (by decide +kernel)) rfl) mc_D_remember ⟨by decide +kernel, by decide +kernel, by rw [hlen]; decide +kernel⟩ ⟨hF.1.1, by have := hF.1.2; omega⟩ hF.2 hcat kk
theorem cl_D_140 (M : g_C G X.1 y_D_strike b_D_strike 5 (some .int) d2 (.ref (g_a G 0) :: As) V S post2) (hd : decode cc pc = .ok (.invokevirtual 140, 3)) (hst : st0 = As.reverse ++ .ref (g_a G 0) :: st) (hlen : As.length = 2) (hF : g_ft X d2) (hcat : (st.map fun v => v.category).sum ≤ 8) (kk : ∀ (v : Option Value) (V' : g_V) (S' : g_L), post2 v V' S' → JW G X cc R_D (pc + 3) lv (v.toList ++ st) V' S') : JW G X cc R_D pc lv st0 V S :=
  j_callV M hd hst (cl := 0) (by decide) (rfl) (T := T_D) (N := 18) (ci := 0) rfl (g_use (List.mem_of_getElem? (i := 288) (by decide +kernel)) rfl) (g_use (List.mem_of_getElem? (i := 290) (by decide +kernel)) rfl) (g_use (List.mem_of_getElem? (i := 13) (by decide +kernel)) rfl) (g_use (List.mem_of_getElem? (i := 52) (by decide +kernel)) rfl) mc_D_strike ⟨by decide +kernel, by decide +kernel, by rw [hlen]; decide +kernel⟩ ⟨hF.1.1, by have := hF.1.2; omega⟩ hF.2 hcat kk
theorem cl_D_144 (M : g_C G X.1 y_D_wetBy b_D_wetBy 4 (some .int) d2 (.ref (g_a G 0) :: As) V S post2) (hd : decode cc pc = .ok (.invokevirtual 144, 3)) (hst : st0 = As.reverse ++ .ref (g_a G 0) :: st) (hlen : As.length = 1) (hF : g_ft X d2) (hcat : (st.map fun v => v.category).sum ≤ 8) (kk : ∀ (v : Option Value) (V' : g_V) (S' : g_L), post2 v V' S' → JW G X cc R_D (pc + 3) lv (v.toList ++ st) V' S') : JW G X cc R_D pc lv st0 V S :=
  j_callV M hd hst (cl := 0) (by decide) (rfl) (T := T_D) (N := 18) (ci := 0) rfl (g_use (List.mem_of_getElem? (i := 299) (by decide +kernel)) rfl) (g_use (List.mem_of_getElem? (i := 301) (by decide +kernel)) rfl) (g_use (List.mem_of_getElem? (i := 15) (by decide +kernel)) rfl) (g_use (List.mem_of_getElem? (i := 52) (by decide +kernel)) rfl) mc_D_wetBy ⟨by decide +kernel, by decide +kernel, by rw [hlen]; decide +kernel⟩ ⟨hF.1.1, by have := hF.1.2; omega⟩ hF.2 hcat kk
theorem cl_D_147 (M : g_C G X.1 y_D_worthOf b_D_worthOf 4 (some .int) d2 (.ref (g_a G 0) :: As) V S post2) (hd : decode cc pc = .ok (.invokevirtual 147, 3)) (hst : st0 = As.reverse ++ .ref (g_a G 0) :: st) (hlen : As.length = 1) (hF : g_ft X d2) (hcat : (st.map fun v => v.category).sum ≤ 8) (kk : ∀ (v : Option Value) (V' : g_V) (S' : g_L), post2 v V' S' → JW G X cc R_D (pc + 3) lv (v.toList ++ st) V' S') : JW G X cc R_D pc lv st0 V S :=
  j_callV M hd hst (cl := 0) (by decide) (rfl) (T := T_D) (N := 18) (ci := 0) rfl (g_use (List.mem_of_getElem? (i := 303) (by decide +kernel)) rfl) (g_use (List.mem_of_getElem? (i := 305) (by decide +kernel)) rfl) (g_use (List.mem_of_getElem? (i := 16) (by decide +kernel)) rfl) (g_use (List.mem_of_getElem? (i := 52) (by decide +kernel)) rfl) mc_D_worthOf ⟨by decide +kernel, by decide +kernel, by rw [hlen]; decide +kernel⟩ ⟨hF.1.1, by have := hF.1.2; omega⟩ hF.2 hcat kk
theorem cl_D_150 (M : g_C G X.1 y_D_has b_D_has 2 (some .boolean) d2 As V S post2) (hd : decode cc pc = .ok (.invokestatic 150, 3)) (hst : st0 = As.reverse ++ st) (hlen : As.length = 2) (hF : g_ft X d2) (hcat : (st.map fun v => v.category).sum ≤ 8) (kk : ∀ (v : Option Value) (V' : g_V) (S' : g_L), post2 v V' S' → JW G X cc R_D (pc + 3) lv (v.toList ++ st) V' S') : JW G X cc R_D pc lv st0 V S :=
  j_callS M hd hst (g_use (List.mem_of_getElem? (i := 249) (by decide +kernel)) rfl) (g_use (List.mem_of_getElem? (i := 213) (by decide +kernel)) rfl) (g_use (List.mem_of_getElem? (i := 52) (by decide +kernel)) rfl) mc_D_has ⟨by decide +kernel, by decide +kernel, by rw [hlen]; decide +kernel⟩ ⟨hF.1.1, by have := hF.1.2; omega⟩ hF.2 hcat kk
theorem cl_D_154 (M : g_C G X.1 y_D_actRow b_D_actRow 2 (some .int) d2 (.ref (g_a G 0) :: As) V S post2) (hd : decode cc pc = .ok (.invokevirtual 154, 3)) (hst : st0 = As.reverse ++ .ref (g_a G 0) :: st) (hlen : As.length = 1) (hF : g_ft X d2) (hcat : (st.map fun v => v.category).sum ≤ 8) (kk : ∀ (v : Option Value) (V' : g_V) (S' : g_L), post2 v V' S' → JW G X cc R_D (pc + 3) lv (v.toList ++ st) V' S') : JW G X cc R_D pc lv st0 V S :=
  j_callV M hd hst (cl := 0) (by decide) (rfl) (T := T_D) (N := 18) (ci := 0) rfl (g_use (List.mem_of_getElem? (i := 277) (by decide +kernel)) rfl) (g_use (List.mem_of_getElem? (i := 279) (by decide +kernel)) rfl) (g_use (List.mem_of_getElem? (i := 11) (by decide +kernel)) rfl) (g_use (List.mem_of_getElem? (i := 52) (by decide +kernel)) rfl) mc_D_actRow ⟨by decide +kernel, by decide +kernel, by rw [hlen]; decide +kernel⟩ ⟨hF.1.1, by have := hF.1.2; omega⟩ hF.2 hcat kk
theorem cl_D_161 (M : g_C G X.1 y_D_brokenBy b_D_brokenBy 4 (some .int) d2 (.ref (g_a G 0) :: As) V S post2) (hd : decode cc pc = .ok (.invokevirtual 161, 3)) (hst : st0 = As.reverse ++ .ref (g_a G 0) :: st) (hlen : As.length = 1) (hF : g_ft X d2) (hcat : (st.map fun v => v.category).sum ≤ 8) (kk : ∀ (v : Option Value) (V' : g_V) (S' : g_L), post2 v V' S' → JW G X cc R_D (pc + 3) lv (v.toList ++ st) V' S') : JW G X cc R_D pc lv st0 V S :=
  j_callV M hd hst (cl := 0) (by decide) (rfl) (T := T_D) (N := 18) (ci := 0) rfl (g_use (List.mem_of_getElem? (i := 335) (by decide +kernel)) rfl) (g_use (List.mem_of_getElem? (i := 337) (by decide +kernel)) rfl) (g_use (List.mem_of_getElem? (i := 17) (by decide +kernel)) rfl) (g_use (List.mem_of_getElem? (i := 52) (by decide +kernel)) rfl) mc_D_brokenBy ⟨by decide +kernel, by decide +kernel, by rw [hlen]; decide +kernel⟩ ⟨hF.1.1, by have := hF.1.2; omega⟩ hF.2 hcat kk
theorem cl_D_164 (M : g_C G X.1 y_D_lackOf b_D_lackOf 5 (some .int) d2 (.ref (g_a G 0) :: As) V S post2) (hd : decode cc pc = .ok (.invokevirtual 164, 3)) (hst : st0 = As.reverse ++ .ref (g_a G 0) :: st) (hlen : As.length = 2) (hF : g_ft X d2) (hcat : (st.map fun v => v.category).sum ≤ 8) (kk : ∀ (v : Option Value) (V' : g_V) (S' : g_L), post2 v V' S' → JW G X cc R_D (pc + 3) lv (v.toList ++ st) V' S') : JW G X cc R_D pc lv st0 V S :=
  j_callV M hd hst (cl := 0) (by decide) (rfl) (T := T_D) (N := 18) (ci := 0) rfl (g_use (List.mem_of_getElem? (i := 351) (by decide +kernel)) rfl) (g_use (List.mem_of_getElem? (i := 353) (by decide +kernel)) rfl) (g_use (List.mem_of_getElem? (i := 18) (by decide +kernel)) rfl) (g_use (List.mem_of_getElem? (i := 52) (by decide +kernel)) rfl) mc_D_lackOf ⟨by decide +kernel, by decide +kernel, by rw [hlen]; decide +kernel⟩ ⟨hF.1.1, by have := hF.1.2; omega⟩ hF.2 hcat kk
theorem cl_D_167 (M : g_C G X.1 y_D_reckonSets b_D_reckonSets 5 none d2 (.ref (g_a G 0) :: As) V S post2) (hd : decode cc pc = .ok (.invokevirtual 167, 3)) (hst : st0 = As.reverse ++ .ref (g_a G 0) :: st) (hlen : As.length = 1) (hF : g_ft X d2) (hcat : (st.map fun v => v.category).sum ≤ 8) (kk : ∀ (v : Option Value) (V' : g_V) (S' : g_L), post2 v V' S' → JW G X cc R_D (pc + 3) lv (v.toList ++ st) V' S') : JW G X cc R_D pc lv st0 V S :=
  j_callV M hd hst (cl := 0) (by decide) (rfl) (T := T_D) (N := 18) (ci := 0) rfl (g_use (List.mem_of_getElem? (i := 359) (by decide +kernel)) rfl) (g_use (List.mem_of_getElem? (i := 361) (by decide +kernel)) rfl) (g_use (List.mem_of_getElem? (i := 19) (by decide +kernel)) rfl) (g_use (List.mem_of_getElem? (i := 52) (by decide +kernel)) rfl) mc_D_reckonSets ⟨by decide +kernel, by decide +kernel, by rw [hlen]; decide +kernel⟩ ⟨hF.1.1, by have := hF.1.2; omega⟩ hF.2 hcat kk
theorem cl_D_170 (M : g_C G X.1 y_D_bestSet b_D_bestSet 5 (some .int) d2 (.ref (g_a G 0) :: As) V S post2) (hd : decode cc pc = .ok (.invokevirtual 170, 3)) (hst : st0 = As.reverse ++ .ref (g_a G 0) :: st) (hlen : As.length = 1) (hF : g_ft X d2) (hcat : (st.map fun v => v.category).sum ≤ 8) (kk : ∀ (v : Option Value) (V' : g_V) (S' : g_L), post2 v V' S' → JW G X cc R_D (pc + 3) lv (v.toList ++ st) V' S') : JW G X cc R_D pc lv st0 V S :=
  j_callV M hd hst (cl := 0) (by decide) (rfl) (T := T_D) (N := 18) (ci := 0) rfl (g_use (List.mem_of_getElem? (i := 364) (by decide +kernel)) rfl) (g_use (List.mem_of_getElem? (i := 366) (by decide +kernel)) rfl) (g_use (List.mem_of_getElem? (i := 20) (by decide +kernel)) rfl) (g_use (List.mem_of_getElem? (i := 52) (by decide +kernel)) rfl) mc_D_bestSet ⟨by decide +kernel, by decide +kernel, by rw [hlen]; decide +kernel⟩ ⟨hF.1.1, by have := hF.1.2; omega⟩ hF.2 hcat kk
theorem cl_D_173 (M : g_C G X.1 y_D_readStorms b_D_readStorms 7 (some .boolean) d2 (.ref (g_a G 0) :: As) V S post2) (hd : decode cc pc = .ok (.invokevirtual 173, 3)) (hst : st0 = As.reverse ++ .ref (g_a G 0) :: st) (hlen : As.length = 2) (hF : g_ft X d2) (hcat : (st.map fun v => v.category).sum ≤ 8) (kk : ∀ (v : Option Value) (V' : g_V) (S' : g_L), post2 v V' S' → JW G X cc R_D (pc + 3) lv (v.toList ++ st) V' S') : JW G X cc R_D pc lv st0 V S :=
  j_callV M hd hst (cl := 0) (by decide) (rfl) (T := T_D) (N := 18) (ci := 0) rfl (g_use (List.mem_of_getElem? (i := 380) (by decide +kernel)) rfl) (g_use (List.mem_of_getElem? (i := 382) (by decide +kernel)) rfl) (g_use (List.mem_of_getElem? (i := 22) (by decide +kernel)) rfl) (g_use (List.mem_of_getElem? (i := 52) (by decide +kernel)) rfl) mc_D_readStorms ⟨by decide +kernel, by decide +kernel, by rw [hlen]; decide +kernel⟩ ⟨hF.1.1, by have := hF.1.2; omega⟩ hF.2 hcat kk
theorem cl_D_177 (M : g_C G X.1 y_D_copyRow b_D_copyRow 3 none d2 As V S post2) (hd : decode cc pc = .ok (.invokestatic 177, 3)) (hst : st0 = As.reverse ++ st) (hlen : As.length = 2) (hF : g_ft X d2) (hcat : (st.map fun v => v.category).sum ≤ 8) (kk : ∀ (v : Option Value) (V' : g_V) (S' : g_L), post2 v V' S' → JW G X cc R_D (pc + 3) lv (v.toList ++ st) V' S') : JW G X cc R_D pc lv st0 V S :=
  j_callS M hd hst (g_use (List.mem_of_getElem? (i := 385) (by decide +kernel)) rfl) (g_use (List.mem_of_getElem? (i := 286) (by decide +kernel)) rfl) (g_use (List.mem_of_getElem? (i := 52) (by decide +kernel)) rfl) mc_D_copyRow ⟨by decide +kernel, by decide +kernel, by rw [hlen]; decide +kernel⟩ ⟨hF.1.1, by have := hF.1.2; omega⟩ hF.2 hcat kk
theorem cl_D_181 (M : g_C G X.1 y_D_netOf b_D_netOf 4 (some .int) d2 (.ref (g_a G 0) :: As) V S post2) (hd : decode cc pc = .ok (.invokevirtual 181, 3)) (hst : st0 = As.reverse ++ .ref (g_a G 0) :: st) (hlen : As.length = 1) (hF : g_ft X d2) (hcat : (st.map fun v => v.category).sum ≤ 8) (kk : ∀ (v : Option Value) (V' : g_V) (S' : g_L), post2 v V' S' → JW G X cc R_D (pc + 3) lv (v.toList ++ st) V' S') : JW G X cc R_D pc lv st0 V S :=
  j_callV M hd hst (cl := 0) (by decide) (rfl) (T := T_D) (N := 18) (ci := 0) rfl (g_use (List.mem_of_getElem? (i := 394) (by decide +kernel)) rfl) (g_use (List.mem_of_getElem? (i := 396) (by decide +kernel)) rfl) (g_use (List.mem_of_getElem? (i := 23) (by decide +kernel)) rfl) (g_use (List.mem_of_getElem? (i := 52) (by decide +kernel)) rfl) mc_D_netOf ⟨by decide +kernel, by decide +kernel, by rw [hlen]; decide +kernel⟩ ⟨hF.1.1, by have := hF.1.2; omega⟩ hF.2 hcat kk
theorem cl_D_184 (M : g_C G X.1 y_I_bitCount b_I_bitCount 1 (some .int) d2 As V S post2) (hd : decode cc pc = .ok (.invokestatic 184, 3)) (hst : st0 = As.reverse ++ st) (hlen : As.length = 1) (hF : g_ft X d2) (hcat : (st.map fun v => v.category).sum ≤ 8) (kk : ∀ (v : Option Value) (V' : g_V) (S' : g_L), post2 v V' S' → JW G X cc R_D (pc + 3) lv (v.toList ++ st) V' S') : JW G X cc R_D pc lv st0 V S :=
  j_callS M hd hst (g_use (List.mem_of_getElem? (i := 402) (by decide +kernel)) rfl) (g_use (List.mem_of_getElem? (i := 207) (by decide +kernel)) rfl) (g_use (List.mem_of_getElem? (i := 56) (by decide +kernel)) rfl) mc_I_bitCount ⟨by decide +kernel, by decide +kernel, by rw [hlen]; decide +kernel⟩ ⟨hF.1.1, by have := hF.1.2; omega⟩ hF.2 hcat kk
theorem cl_D_189 (M : g_C G X.1 y_D_mostCuts b_D_mostCuts 6 (some .int) d2 (.ref (g_a G 0) :: As) V S post2) (hd : decode cc pc = .ok (.invokevirtual 189, 3)) (hst : st0 = As.reverse ++ .ref (g_a G 0) :: st) (hlen : As.length = 1) (hF : g_ft X d2) (hcat : (st.map fun v => v.category).sum ≤ 8) (kk : ∀ (v : Option Value) (V' : g_V) (S' : g_L), post2 v V' S' → JW G X cc R_D (pc + 3) lv (v.toList ++ st) V' S') : JW G X cc R_D pc lv st0 V S :=
  j_callV M hd hst (cl := 0) (by decide) (rfl) (T := T_D) (N := 18) (ci := 0) rfl (g_use (List.mem_of_getElem? (i := 403) (by decide +kernel)) rfl) (g_use (List.mem_of_getElem? (i := 405) (by decide +kernel)) rfl) (g_use (List.mem_of_getElem? (i := 24) (by decide +kernel)) rfl) (g_use (List.mem_of_getElem? (i := 52) (by decide +kernel)) rfl) mc_D_mostCuts ⟨by decide +kernel, by decide +kernel, by rw [hlen]; decide +kernel⟩ ⟨hF.1.1, by have := hF.1.2; omega⟩ hF.2 hcat kk
theorem cl_D_195 (M : g_C G X.1 y_D_inLeastTerms b_D_inLeastTerms 5 (some .int) d2 As V S post2) (hd : decode cc pc = .ok (.invokestatic 195, 3)) (hst : st0 = As.reverse ++ st) (hlen : As.length = 3) (hF : g_ft X d2) (hcat : (st.map fun v => v.category).sum ≤ 8) (kk : ∀ (v : Option Value) (V' : g_V) (S' : g_L), post2 v V' S' → JW G X cc R_D (pc + 3) lv (v.toList ++ st) V' S') : JW G X cc R_D pc lv st0 V S :=
  j_callS M hd hst (g_use (List.mem_of_getElem? (i := 413) (by decide +kernel)) rfl) (g_use (List.mem_of_getElem? (i := 414) (by decide +kernel)) rfl) (g_use (List.mem_of_getElem? (i := 52) (by decide +kernel)) rfl) mc_D_inLeastTerms ⟨by decide +kernel, by decide +kernel, by rw [hlen]; decide +kernel⟩ ⟨hF.1.1, by have := hF.1.2; omega⟩ hF.2 hcat kk
theorem cl_D_199 (M : g_C G X.1 y_D_reckonGiven b_D_reckonGiven 7 none d2 (.ref (g_a G 0) :: As) V S post2) (hd : decode cc pc = .ok (.invokevirtual 199, 3)) (hst : st0 = As.reverse ++ .ref (g_a G 0) :: st) (hlen : As.length = 2) (hF : g_ft X d2) (hcat : (st.map fun v => v.category).sum ≤ 8) (kk : ∀ (v : Option Value) (V' : g_V) (S' : g_L), post2 v V' S' → JW G X cc R_D (pc + 3) lv (v.toList ++ st) V' S') : JW G X cc R_D pc lv st0 V S :=
  j_callV M hd hst (cl := 0) (by decide) (rfl) (T := T_D) (N := 18) (ci := 0) rfl (g_use (List.mem_of_getElem? (i := 423) (by decide +kernel)) rfl) (g_use (List.mem_of_getElem? (i := 425) (by decide +kernel)) rfl) (g_use (List.mem_of_getElem? (i := 25) (by decide +kernel)) rfl) (g_use (List.mem_of_getElem? (i := 52) (by decide +kernel)) rfl) mc_D_reckonGiven ⟨by decide +kernel, by decide +kernel, by rw [hlen]; decide +kernel⟩ ⟨hF.1.1, by have := hF.1.2; omega⟩ hF.2 hcat kk
theorem cl_D_203 (M : g_C G X.1 y_D_isContent b_D_isContent 6 (some .boolean) d2 (.ref (g_a G 0) :: As) V S post2) (hd : decode cc pc = .ok (.invokevirtual 203, 3)) (hst : st0 = As.reverse ++ .ref (g_a G 0) :: st) (hlen : As.length = 3) (hF : g_ft X d2) (hcat : (st.map fun v => v.category).sum ≤ 8) (kk : ∀ (v : Option Value) (V' : g_V) (S' : g_L), post2 v V' S' → JW G X cc R_D (pc + 3) lv (v.toList ++ st) V' S') : JW G X cc R_D pc lv st0 V S :=
  j_callV M hd hst (cl := 0) (by decide) (rfl) (T := T_D) (N := 18) (ci := 0) rfl (g_use (List.mem_of_getElem? (i := 427) (by decide +kernel)) rfl) (g_use (List.mem_of_getElem? (i := 429) (by decide +kernel)) rfl) (g_use (List.mem_of_getElem? (i := 26) (by decide +kernel)) rfl) (g_use (List.mem_of_getElem? (i := 52) (by decide +kernel)) rfl) mc_D_isContent ⟨by decide +kernel, by decide +kernel, by rw [hlen]; decide +kernel⟩ ⟨hF.1.1, by have := hF.1.2; omega⟩ hF.2 hcat kk
theorem cl_D_207 (M : g_C G X.1 y_D_holdsThrough b_D_holdsThrough 8 (some .boolean) d2 (.ref (g_a G 0) :: As) V S post2) (hd : decode cc pc = .ok (.invokevirtual 207, 3)) (hst : st0 = As.reverse ++ .ref (g_a G 0) :: st) (hlen : As.length = 4) (hF : g_ft X d2) (hcat : (st.map fun v => v.category).sum ≤ 8) (kk : ∀ (v : Option Value) (V' : g_V) (S' : g_L), post2 v V' S' → JW G X cc R_D (pc + 3) lv (v.toList ++ st) V' S') : JW G X cc R_D pc lv st0 V S :=
  j_callV M hd hst (cl := 0) (by decide) (rfl) (T := T_D) (N := 18) (ci := 0) rfl (g_use (List.mem_of_getElem? (i := 439) (by decide +kernel)) rfl) (g_use (List.mem_of_getElem? (i := 441) (by decide +kernel)) rfl) (g_use (List.mem_of_getElem? (i := 28) (by decide +kernel)) rfl) (g_use (List.mem_of_getElem? (i := 52) (by decide +kernel)) rfl) mc_D_holdsThrough ⟨by decide +kernel, by decide +kernel, by rw [hlen]; decide +kernel⟩ ⟨hF.1.1, by have := hF.1.2; omega⟩ hF.2 hcat kk
theorem cl_D_211 (M : g_C G X.1 y_D_chanceOf b_D_chanceOf 4 (some .int) d2 As V S post2) (hd : decode cc pc = .ok (.invokestatic 211, 3)) (hst : st0 = As.reverse ++ st) (hlen : As.length = 2) (hF : g_ft X d2) (hcat : (st.map fun v => v.category).sum ≤ 8) (kk : ∀ (v : Option Value) (V' : g_V) (S' : g_L), post2 v V' S' → JW G X cc R_D (pc + 3) lv (v.toList ++ st) V' S') : JW G X cc R_D pc lv st0 V S :=
  j_callS M hd hst (g_use (List.mem_of_getElem? (i := 443) (by decide +kernel)) rfl) (g_use (List.mem_of_getElem? (i := 444) (by decide +kernel)) rfl) (g_use (List.mem_of_getElem? (i := 52) (by decide +kernel)) rfl) mc_D_chanceOf ⟨by decide +kernel, by decide +kernel, by rw [hlen]; decide +kernel⟩ ⟨hF.1.1, by have := hF.1.2; omega⟩ hF.2 hcat kk
theorem cm_D_227 {x y : Int32} (hd : decode cc pc = .ok (.invokestatic 227, 3)) (hF : g_ft X 0) (hcat : (st.map fun v => v.category).sum ≤ 8) (kk : JW G X cc R_D (pc + 3) lv (.int (if x < y then y else x) :: st) V S) : JW G X cc R_D pc lv (.int y :: .int x :: st) V S :=
  j_max hd (g_use (List.mem_of_getElem? (i := 296) (by decide +kernel)) rfl) (g_use (List.mem_of_getElem? (i := 297) (by decide +kernel)) rfl) (g_use (List.mem_of_getElem? (i := 58) (by decide +kernel)) rfl) (g_use (List.mem_of_getElem? (i := 298) (by decide +kernel)) rfl) ⟨by have := hF.1.1; omega, by have := hF.1.2; omega⟩ hF.2 hcat kk
theorem cl_D_232 (M : g_C G X.1 y_D_heightBehind b_D_heightBehind 5 (some .int) d2 (.ref (g_a G 0) :: As) V S post2) (hd : decode cc pc = .ok (.invokevirtual 232, 3)) (hst : st0 = As.reverse ++ .ref (g_a G 0) :: st) (hlen : As.length = 3) (hF : g_ft X d2) (hcat : (st.map fun v => v.category).sum ≤ 8) (kk : ∀ (v : Option Value) (V' : g_V) (S' : g_L), post2 v V' S' → JW G X cc R_D (pc + 3) lv (v.toList ++ st) V' S') : JW G X cc R_D pc lv st0 V S :=
  j_callV M hd hst (cl := 0) (by decide) (rfl) (T := T_D) (N := 18) (ci := 0) rfl (g_use (List.mem_of_getElem? (i := 292) (by decide +kernel)) rfl) (g_use (List.mem_of_getElem? (i := 294) (by decide +kernel)) rfl) (g_use (List.mem_of_getElem? (i := 14) (by decide +kernel)) rfl) (g_use (List.mem_of_getElem? (i := 52) (by decide +kernel)) rfl) mc_D_heightBehind ⟨by decide +kernel, by decide +kernel, by rw [hlen]; decide +kernel⟩ ⟨hF.1.1, by have := hF.1.2; omega⟩ hF.2 hcat kk
theorem cl_D_237 (M : g_C G X.1 y_D_isBetter b_D_isBetter 3 (some .boolean) d2 (.ref (g_a G 0) :: As) V S post2) (hd : decode cc pc = .ok (.invokevirtual 237, 3)) (hst : st0 = As.reverse ++ .ref (g_a G 0) :: st) (hlen : As.length = 2) (hF : g_ft X d2) (hcat : (st.map fun v => v.category).sum ≤ 8) (kk : ∀ (v : Option Value) (V' : g_V) (S' : g_L), post2 v V' S' → JW G X cc R_D (pc + 3) lv (v.toList ++ st) V' S') : JW G X cc R_D pc lv st0 V S :=
  j_callV M hd hst (cl := 0) (by decide) (rfl) (T := T_D) (N := 18) (ci := 0) rfl (g_use (List.mem_of_getElem? (i := 368) (by decide +kernel)) rfl) (g_use (List.mem_of_getElem? (i := 370) (by decide +kernel)) rfl) (g_use (List.mem_of_getElem? (i := 21) (by decide +kernel)) rfl) (g_use (List.mem_of_getElem? (i := 52) (by decide +kernel)) rfl) mc_D_isBetter ⟨by decide +kernel, by decide +kernel, by rw [hlen]; decide +kernel⟩ ⟨hF.1.1, by have := hF.1.2; omega⟩ hF.2 hcat kk
theorem cl_D_242 (M : g_C G X.1 y_D_leftOver b_D_leftOver 5 (some .int) d2 (.ref (g_a G 0) :: As) V S post2) (hd : decode cc pc = .ok (.invokevirtual 242, 3)) (hst : st0 = As.reverse ++ .ref (g_a G 0) :: st) (hlen : As.length = 3) (hF : g_ft X d2) (hcat : (st.map fun v => v.category).sum ≤ 8) (kk : ∀ (v : Option Value) (V' : g_V) (S' : g_L), post2 v V' S' → JW G X cc R_D (pc + 3) lv (v.toList ++ st) V' S') : JW G X cc R_D pc lv st0 V S :=
  j_callV M hd hst (cl := 0) (by decide) (rfl) (T := T_D) (N := 18) (ci := 0) rfl (g_use (List.mem_of_getElem? (i := 431) (by decide +kernel)) rfl) (g_use (List.mem_of_getElem? (i := 433) (by decide +kernel)) rfl) (g_use (List.mem_of_getElem? (i := 27) (by decide +kernel)) rfl) (g_use (List.mem_of_getElem? (i := 52) (by decide +kernel)) rfl) mc_D_leftOver ⟨by decide +kernel, by decide +kernel, by rw [hlen]; decide +kernel⟩ ⟨hF.1.1, by have := hF.1.2; omega⟩ hF.2 hcat kk
theorem cl_D_245 (M : g_C G X.1 y_D_commonDivisor b_D_commonDivisor 6 (some .int) d2 As V S post2) (hd : decode cc pc = .ok (.invokestatic 245, 3)) (hst : st0 = As.reverse ++ st) (hlen : As.length = 2) (hF : g_ft X d2) (hcat : (st.map fun v => v.category).sum ≤ 8) (kk : ∀ (v : Option Value) (V' : g_V) (S' : g_L), post2 v V' S' → JW G X cc R_D (pc + 3) lv (v.toList ++ st) V' S') : JW G X cc R_D pc lv st0 V S :=
  j_callS M hd hst (g_use (List.mem_of_getElem? (i := 416) (by decide +kernel)) rfl) (g_use (List.mem_of_getElem? (i := 417) (by decide +kernel)) rfl) (g_use (List.mem_of_getElem? (i := 52) (by decide +kernel)) rfl) mc_D_commonDivisor ⟨by decide +kernel, by decide +kernel, by rw [hlen]; decide +kernel⟩ ⟨hF.1.1, by have := hF.1.2; omega⟩ hF.2 hcat kk
theorem cl_D_85 (M : g_C G X.1 y_D_settleFarm b_D_settleFarm 2 none d2 (.ref (g_a G 0) :: As) V S post2) (hd : decode cc pc = .ok (.invokevirtual 85, 3)) (hst : st0 = As.reverse ++ .ref (g_a G 0) :: st) (hlen : As.length = 1) (hF : g_ft X d2) (hcat : (st.map fun v => v.category).sum ≤ 8) (kk : ∀ (v : Option Value) (V' : g_V) (S' : g_L), post2 v V' S' → JW G X cc R_D (pc + 3) lv (v.toList ++ st) V' S') : JW G X cc R_D pc lv st0 V S :=
  j_callV M hd hst (cl := 0) (by decide) (rfl) (T := T_D) (N := 18) (ci := 0) rfl (g_use (List.mem_of_getElem? (i := 230) (by decide +kernel)) rfl) (g_use (List.mem_of_getElem? (i := 232) (by decide +kernel)) rfl) (g_use (List.mem_of_getElem? (i := 5) (by decide +kernel)) rfl) (g_use (List.mem_of_getElem? (i := 52) (by decide +kernel)) rfl) mc_D_settleFarm ⟨by decide +kernel, by decide +kernel, by rw [hlen]; decide +kernel⟩ ⟨hF.1.1, by have := hF.1.2; omega⟩ hF.2 hcat kk
theorem cl_D_98 (M : g_C G X.1 y_D_bit b_D_bit 1 (some .int) d2 As V S post2) (hd : decode cc pc = .ok (.invokestatic 98, 3)) (hst : st0 = As.reverse ++ st) (hlen : As.length = 1) (hF : g_ft X d2) (hcat : (st.map fun v => v.category).sum ≤ 8) (kk : ∀ (v : Option Value) (V' : g_V) (S' : g_L), post2 v V' S' → JW G X cc R_D (pc + 3) lv (v.toList ++ st) V' S') : JW G X cc R_D pc lv st0 V S :=
  j_callS M hd hst (g_use (List.mem_of_getElem? (i := 236) (by decide +kernel)) rfl) (g_use (List.mem_of_getElem? (i := 216) (by decide +kernel)) rfl) (g_use (List.mem_of_getElem? (i := 52) (by decide +kernel)) rfl) mc_D_bit ⟨by decide +kernel, by decide +kernel, by rw [hlen]; decide +kernel⟩ ⟨hF.1.1, by have := hF.1.2; omega⟩ hF.2 hcat kk
theorem cl_L_103 (M : g_C G X.1 y_M_told b_M_told 10 (some .int) d2 (.ref (g_a G 201) :: As) V S post2) (hd : decode cc pc = .ok (.invokevirtual 103, 3)) (hst : st0 = As.reverse ++ .ref (g_a G 201) :: st) (hlen : As.length = 4) (hF : g_ft X d2) (hcat : (st.map fun v => v.category).sum ≤ 8) (kk : ∀ (v : Option Value) (V' : g_V) (S' : g_L), post2 v V' S' → JW G X cc "DykeFarmsLaw" (pc + 3) lv (v.toList ++ st) V' S') : JW G X cc "DykeFarmsLaw" pc lv st0 V S :=
  j_callV M hd hst (cl := 201) (by decide) (rfl) (T := T_M) (N := 24) (ci := 3) rfl (g_use (List.mem_of_getElem? (i := 705) (by decide +kernel)) rfl) (g_use (List.mem_of_getElem? (i := 706) (by decide +kernel)) rfl) (g_use (List.mem_of_getElem? (i := 707) (by decide +kernel)) rfl) (g_use (List.mem_of_getElem? (i := 55) (by decide +kernel)) rfl) mc_M_told ⟨by decide +kernel, by decide +kernel, by rw [hlen]; decide +kernel⟩ ⟨hF.1.1, by have := hF.1.2; omega⟩ hF.2 hcat kk
theorem cl_L_104 (M : g_C G X.1 y_D_wet b_D_wet 7 (some .int) d2 (.ref (g_a G 0) :: As) V S post2) (hd : decode cc pc = .ok (.invokevirtual 104, 3)) (hst : st0 = As.reverse ++ .ref (g_a G 0) :: st) (hlen : As.length = 2) (hF : g_ft X d2) (hcat : (st.map fun v => v.category).sum ≤ 8) (kk : ∀ (v : Option Value) (V' : g_V) (S' : g_L), post2 v V' S' → JW G X cc "DykeFarmsLaw" (pc + 3) lv (v.toList ++ st) V' S') : JW G X cc "DykeFarmsLaw" pc lv st0 V S :=
  j_callV M hd hst (cl := 0) (by decide) (rfl) (T := T_D) (N := 18) (ci := 0) rfl (g_use (List.mem_of_getElem? (i := 386) (by decide +kernel)) rfl) (g_use (List.mem_of_getElem? (i := 387) (by decide +kernel)) rfl) (g_use (List.mem_of_getElem? (i := 388) (by decide +kernel)) rfl) (g_use (List.mem_of_getElem? (i := 52) (by decide +kernel)) rfl) mc_D_wet ⟨by decide +kernel, by decide +kernel, by rw [hlen]; decide +kernel⟩ ⟨hF.1.1, by have := hF.1.2; omega⟩ hF.2 hcat kk
theorem cl_L_107 (M : g_C G X.1 y_M_wet b_M_wet 7 (some .int) d2 (.ref (g_a G 201) :: As) V S post2) (hd : decode cc pc = .ok (.invokevirtual 107, 3)) (hst : st0 = As.reverse ++ .ref (g_a G 201) :: st) (hlen : As.length = 2) (hF : g_ft X d2) (hcat : (st.map fun v => v.category).sum ≤ 8) (kk : ∀ (v : Option Value) (V' : g_V) (S' : g_L), post2 v V' S' → JW G X cc "DykeFarmsLaw" (pc + 3) lv (v.toList ++ st) V' S') : JW G X cc "DykeFarmsLaw" pc lv st0 V S :=
  j_callV M hd hst (cl := 201) (by decide) (rfl) (T := T_M) (N := 24) (ci := 3) rfl (g_use (List.mem_of_getElem? (i := 725) (by decide +kernel)) rfl) (g_use (List.mem_of_getElem? (i := 726) (by decide +kernel)) rfl) (g_use (List.mem_of_getElem? (i := 727) (by decide +kernel)) rfl) (g_use (List.mem_of_getElem? (i := 55) (by decide +kernel)) rfl) mc_M_wet ⟨by decide +kernel, by decide +kernel, by rw [hlen]; decide +kernel⟩ ⟨hF.1.1, by have := hF.1.2; omega⟩ hF.2 hcat kk
theorem cl_L_108 (M : g_C G X.1 y_D_net b_D_net 2 (some .int) d2 (.ref (g_a G 0) :: As) V S post2) (hd : decode cc pc = .ok (.invokevirtual 108, 3)) (hst : st0 = As.reverse ++ .ref (g_a G 0) :: st) (hlen : As.length = 1) (hF : g_ft X d2) (hcat : (st.map fun v => v.category).sum ≤ 8) (kk : ∀ (v : Option Value) (V' : g_V) (S' : g_L), post2 v V' S' → JW G X cc "DykeFarmsLaw" (pc + 3) lv (v.toList ++ st) V' S') : JW G X cc "DykeFarmsLaw" pc lv st0 V S :=
  j_callV M hd hst (cl := 0) (by decide) (rfl) (T := T_D) (N := 18) (ci := 0) rfl (g_use (List.mem_of_getElem? (i := 390) (by decide +kernel)) rfl) (g_use (List.mem_of_getElem? (i := 391) (by decide +kernel)) rfl) (g_use (List.mem_of_getElem? (i := 392) (by decide +kernel)) rfl) (g_use (List.mem_of_getElem? (i := 52) (by decide +kernel)) rfl) mc_D_net ⟨by decide +kernel, by decide +kernel, by rw [hlen]; decide +kernel⟩ ⟨hF.1.1, by have := hF.1.2; omega⟩ hF.2 hcat kk
theorem cl_L_111 (M : g_C G X.1 y_M_net b_M_net 2 (some .int) d2 (.ref (g_a G 201) :: As) V S post2) (hd : decode cc pc = .ok (.invokevirtual 111, 3)) (hst : st0 = As.reverse ++ .ref (g_a G 201) :: st) (hlen : As.length = 1) (hF : g_ft X d2) (hcat : (st.map fun v => v.category).sum ≤ 8) (kk : ∀ (v : Option Value) (V' : g_V) (S' : g_L), post2 v V' S' → JW G X cc "DykeFarmsLaw" (pc + 3) lv (v.toList ++ st) V' S') : JW G X cc "DykeFarmsLaw" pc lv st0 V S :=
  j_callV M hd hst (cl := 201) (by decide) (rfl) (T := T_M) (N := 24) (ci := 3) rfl (g_use (List.mem_of_getElem? (i := 729) (by decide +kernel)) rfl) (g_use (List.mem_of_getElem? (i := 730) (by decide +kernel)) rfl) (g_use (List.mem_of_getElem? (i := 731) (by decide +kernel)) rfl) (g_use (List.mem_of_getElem? (i := 55) (by decide +kernel)) rfl) mc_M_net ⟨by decide +kernel, by decide +kernel, by rw [hlen]; decide +kernel⟩ ⟨hF.1.1, by have := hF.1.2; omega⟩ hF.2 hcat kk
theorem cl_L_112 (M : g_C G X.1 y_D_payings b_D_payings 3 (some .int) d2 (.ref (g_a G 0) :: As) V S post2) (hd : decode cc pc = .ok (.invokevirtual 112, 3)) (hst : st0 = As.reverse ++ .ref (g_a G 0) :: st) (hlen : As.length = 0) (hF : g_ft X d2) (hcat : (st.map fun v => v.category).sum ≤ 8) (kk : ∀ (v : Option Value) (V' : g_V) (S' : g_L), post2 v V' S' → JW G X cc "DykeFarmsLaw" (pc + 3) lv (v.toList ++ st) V' S') : JW G X cc "DykeFarmsLaw" pc lv st0 V S :=
  j_callV M hd hst (cl := 0) (by decide) (rfl) (T := T_D) (N := 18) (ci := 0) rfl (g_use (List.mem_of_getElem? (i := 398) (by decide +kernel)) rfl) (g_use (List.mem_of_getElem? (i := 399) (by decide +kernel)) rfl) (g_use (List.mem_of_getElem? (i := 400) (by decide +kernel)) rfl) (g_use (List.mem_of_getElem? (i := 52) (by decide +kernel)) rfl) mc_D_payings ⟨by decide +kernel, by decide +kernel, by rw [hlen]; decide +kernel⟩ ⟨hF.1.1, by have := hF.1.2; omega⟩ hF.2 hcat kk
theorem cl_L_115 (M : g_C G X.1 y_M_payings b_M_payings 7 (some .int) d2 (.ref (g_a G 201) :: As) V S post2) (hd : decode cc pc = .ok (.invokevirtual 115, 3)) (hst : st0 = As.reverse ++ .ref (g_a G 201) :: st) (hlen : As.length = 0) (hF : g_ft X d2) (hcat : (st.map fun v => v.category).sum ≤ 8) (kk : ∀ (v : Option Value) (V' : g_V) (S' : g_L), post2 v V' S' → JW G X cc "DykeFarmsLaw" (pc + 3) lv (v.toList ++ st) V' S') : JW G X cc "DykeFarmsLaw" pc lv st0 V S :=
  j_callV M hd hst (cl := 201) (by decide) (rfl) (T := T_M) (N := 24) (ci := 3) rfl (g_use (List.mem_of_getElem? (i := 737) (by decide +kernel)) rfl) (g_use (List.mem_of_getElem? (i := 738) (by decide +kernel)) rfl) (g_use (List.mem_of_getElem? (i := 739) (by decide +kernel)) rfl) (g_use (List.mem_of_getElem? (i := 55) (by decide +kernel)) rfl) mc_M_payings ⟨by decide +kernel, by decide +kernel, by rw [hlen]; decide +kernel⟩ ⟨hF.1.1, by have := hF.1.2; omega⟩ hF.2 hcat kk
theorem cl_L_116 (M : g_C G X.1 y_D_share b_D_share 8 (some .int) d2 (.ref (g_a G 0) :: As) V S post2) (hd : decode cc pc = .ok (.invokevirtual 116, 3)) (hst : st0 = As.reverse ++ .ref (g_a G 0) :: st) (hlen : As.length = 3) (hF : g_ft X d2) (hcat : (st.map fun v => v.category).sum ≤ 8) (kk : ∀ (v : Option Value) (V' : g_V) (S' : g_L), post2 v V' S' → JW G X cc "DykeFarmsLaw" (pc + 3) lv (v.toList ++ st) V' S') : JW G X cc "DykeFarmsLaw" pc lv st0 V S :=
  j_callV M hd hst (cl := 0) (by decide) (rfl) (T := T_D) (N := 18) (ci := 0) rfl (g_use (List.mem_of_getElem? (i := 407) (by decide +kernel)) rfl) (g_use (List.mem_of_getElem? (i := 408) (by decide +kernel)) rfl) (g_use (List.mem_of_getElem? (i := 409) (by decide +kernel)) rfl) (g_use (List.mem_of_getElem? (i := 52) (by decide +kernel)) rfl) mc_D_share ⟨by decide +kernel, by decide +kernel, by rw [hlen]; decide +kernel⟩ ⟨hF.1.1, by have := hF.1.2; omega⟩ hF.2 hcat kk
theorem cl_L_120 (M : g_C G X.1 y_M_share b_M_share 7 (some .int) d2 (.ref (g_a G 201) :: As) V S post2) (hd : decode cc pc = .ok (.invokevirtual 120, 3)) (hst : st0 = As.reverse ++ .ref (g_a G 201) :: st) (hlen : As.length = 3) (hF : g_ft X d2) (hcat : (st.map fun v => v.category).sum ≤ 8) (kk : ∀ (v : Option Value) (V' : g_V) (S' : g_L), post2 v V' S' → JW G X cc "DykeFarmsLaw" (pc + 3) lv (v.toList ++ st) V' S') : JW G X cc "DykeFarmsLaw" pc lv st0 V S :=
  j_callV M hd hst (cl := 201) (by decide) (rfl) (T := T_M) (N := 24) (ci := 3) rfl (g_use (List.mem_of_getElem? (i := 748) (by decide +kernel)) rfl) (g_use (List.mem_of_getElem? (i := 749) (by decide +kernel)) rfl) (g_use (List.mem_of_getElem? (i := 750) (by decide +kernel)) rfl) (g_use (List.mem_of_getElem? (i := 55) (by decide +kernel)) rfl) mc_M_share ⟨by decide +kernel, by decide +kernel, by rw [hlen]; decide +kernel⟩ ⟨hF.1.1, by have := hF.1.2; omega⟩ hF.2 hcat kk
theorem cl_L_121 (M : g_C G X.1 y_D_rests b_D_rests 10 (some .int) d2 (.ref (g_a G 0) :: As) V S post2) (hd : decode cc pc = .ok (.invokevirtual 121, 3)) (hst : st0 = As.reverse ++ .ref (g_a G 0) :: st) (hlen : As.length = 5) (hF : g_ft X d2) (hcat : (st.map fun v => v.category).sum ≤ 8) (kk : ∀ (v : Option Value) (V' : g_V) (S' : g_L), post2 v V' S' → JW G X cc "DykeFarmsLaw" (pc + 3) lv (v.toList ++ st) V' S') : JW G X cc "DykeFarmsLaw" pc lv st0 V S :=
  j_callV M hd hst (cl := 0) (by decide) (rfl) (T := T_D) (N := 18) (ci := 0) rfl (g_use (List.mem_of_getElem? (i := 419) (by decide +kernel)) rfl) (g_use (List.mem_of_getElem? (i := 420) (by decide +kernel)) rfl) (g_use (List.mem_of_getElem? (i := 421) (by decide +kernel)) rfl) (g_use (List.mem_of_getElem? (i := 52) (by decide +kernel)) rfl) mc_D_rests ⟨by decide +kernel, by decide +kernel, by rw [hlen]; decide +kernel⟩ ⟨hF.1.1, by have := hF.1.2; omega⟩ hF.2 hcat kk
theorem cl_L_125 (M : g_C G X.1 y_M_rests b_M_rests 6 (some .int) d2 (.ref (g_a G 201) :: As) V S post2) (hd : decode cc pc = .ok (.invokevirtual 125, 3)) (hst : st0 = As.reverse ++ .ref (g_a G 201) :: st) (hlen : As.length = 5) (hF : g_ft X d2) (hcat : (st.map fun v => v.category).sum ≤ 8) (kk : ∀ (v : Option Value) (V' : g_V) (S' : g_L), post2 v V' S' → JW G X cc "DykeFarmsLaw" (pc + 3) lv (v.toList ++ st) V' S') : JW G X cc "DykeFarmsLaw" pc lv st0 V S :=
  j_callV M hd hst (cl := 201) (by decide) (rfl) (T := T_M) (N := 24) (ci := 3) rfl (g_use (List.mem_of_getElem? (i := 761) (by decide +kernel)) rfl) (g_use (List.mem_of_getElem? (i := 762) (by decide +kernel)) rfl) (g_use (List.mem_of_getElem? (i := 763) (by decide +kernel)) rfl) (g_use (List.mem_of_getElem? (i := 55) (by decide +kernel)) rfl) mc_M_rests ⟨by decide +kernel, by decide +kernel, by rw [hlen]; decide +kernel⟩ ⟨hF.1.1, by have := hF.1.2; omega⟩ hF.2 hcat kk
theorem cl_L_126 (M : g_C G X.1 y_D_threes b_D_threes 8 (some .int) d2 (.ref (g_a G 0) :: As) V S post2) (hd : decode cc pc = .ok (.invokevirtual 126, 3)) (hst : st0 = As.reverse ++ .ref (g_a G 0) :: st) (hlen : As.length = 5) (hF : g_ft X d2) (hcat : (st.map fun v => v.category).sum ≤ 8) (kk : ∀ (v : Option Value) (V' : g_V) (S' : g_L), post2 v V' S' → JW G X cc "DykeFarmsLaw" (pc + 3) lv (v.toList ++ st) V' S') : JW G X cc "DykeFarmsLaw" pc lv st0 V S :=
  j_callV M hd hst (cl := 0) (by decide) (rfl) (T := T_D) (N := 18) (ci := 0) rfl (g_use (List.mem_of_getElem? (i := 435) (by decide +kernel)) rfl) (g_use (List.mem_of_getElem? (i := 436) (by decide +kernel)) rfl) (g_use (List.mem_of_getElem? (i := 437) (by decide +kernel)) rfl) (g_use (List.mem_of_getElem? (i := 52) (by decide +kernel)) rfl) mc_D_threes ⟨by decide +kernel, by decide +kernel, by rw [hlen]; decide +kernel⟩ ⟨hF.1.1, by have := hF.1.2; omega⟩ hF.2 hcat kk
theorem cl_L_13 (M : g_C G X.1 y_D_write b_D_write 2 (some .int) d2 (.ref (g_a G 0) :: As) V S post2) (hd : decode cc pc = .ok (.invokevirtual 13, 3)) (hst : st0 = As.reverse ++ .ref (g_a G 0) :: st) (hlen : As.length = 1) (hF : g_ft X d2) (hcat : (st.map fun v => v.category).sum ≤ 8) (kk : ∀ (v : Option Value) (V' : g_V) (S' : g_L), post2 v V' S' → JW G X cc "DykeFarmsLaw" (pc + 3) lv (v.toList ++ st) V' S') : JW G X cc "DykeFarmsLaw" pc lv st0 V S :=
  j_callV M hd hst (cl := 0) (by decide) (rfl) (T := T_D) (N := 18) (ci := 0) rfl (g_use (List.mem_of_getElem? (i := 176) (by decide +kernel)) rfl) (g_use (List.mem_of_getElem? (i := 177) (by decide +kernel)) rfl) (g_use (List.mem_of_getElem? (i := 178) (by decide +kernel)) rfl) (g_use (List.mem_of_getElem? (i := 52) (by decide +kernel)) rfl) mc_D_write ⟨by decide +kernel, by decide +kernel, by rw [hlen]; decide +kernel⟩ ⟨hF.1.1, by have := hF.1.2; omega⟩ hF.2 hcat kk
theorem cl_L_130 (M : g_C G X.1 y_M_threes b_M_threes 12 (some .int) d2 (.ref (g_a G 201) :: As) V S post2) (hd : decode cc pc = .ok (.invokevirtual 130, 3)) (hst : st0 = As.reverse ++ .ref (g_a G 201) :: st) (hlen : As.length = 5) (hF : g_ft X d2) (hcat : (st.map fun v => v.category).sum ≤ 8) (kk : ∀ (v : Option Value) (V' : g_V) (S' : g_L), post2 v V' S' → JW G X cc "DykeFarmsLaw" (pc + 3) lv (v.toList ++ st) V' S') : JW G X cc "DykeFarmsLaw" pc lv st0 V S :=
  j_callV M hd hst (cl := 201) (by decide) (rfl) (T := T_M) (N := 24) (ci := 3) rfl (g_use (List.mem_of_getElem? (i := 773) (by decide +kernel)) rfl) (g_use (List.mem_of_getElem? (i := 774) (by decide +kernel)) rfl) (g_use (List.mem_of_getElem? (i := 775) (by decide +kernel)) rfl) (g_use (List.mem_of_getElem? (i := 55) (by decide +kernel)) rfl) mc_M_threes ⟨by decide +kernel, by decide +kernel, by rw [hlen]; decide +kernel⟩ ⟨hF.1.1, by have := hF.1.2; omega⟩ hF.2 hcat kk
theorem cl_L_131 (M : g_C G X.1 y_D_seed b_D_seed 5 (some .long) d2 (.ref (g_a G 0) :: As) V S post2) (hd : decode cc pc = .ok (.invokevirtual 131, 3)) (hst : st0 = As.reverse ++ .ref (g_a G 0) :: st) (hlen : As.length = 1) (hF : g_ft X d2) (hcat : (st.map fun v => v.category).sum ≤ 8) (kk : ∀ (v : Option Value) (V' : g_V) (S' : g_L), post2 v V' S' → JW G X cc "DykeFarmsLaw" (pc + 3) lv (v.toList ++ st) V' S') : JW G X cc "DykeFarmsLaw" pc lv st0 V S :=
  j_callV M hd hst (cl := 0) (by decide) (rfl) (T := T_D) (N := 18) (ci := 0) rfl (g_use (List.mem_of_getElem? (i := 446) (by decide +kernel)) rfl) (g_use (List.mem_of_getElem? (i := 447) (by decide +kernel)) rfl) (g_use (List.mem_of_getElem? (i := 448) (by decide +kernel)) rfl) (g_use (List.mem_of_getElem? (i := 52) (by decide +kernel)) rfl) mc_D_seed ⟨by decide +kernel, by decide +kernel, by rw [hlen]; decide +kernel⟩ ⟨hF.1.1, by have := hF.1.2; omega⟩ hF.2 hcat kk
theorem cl_L_135 (M : g_C G X.1 y_M_seed b_M_seed 5 (some .long) d2 (.ref (g_a G 201) :: As) V S post2) (hd : decode cc pc = .ok (.invokevirtual 135, 3)) (hst : st0 = As.reverse ++ .ref (g_a G 201) :: st) (hlen : As.length = 1) (hF : g_ft X d2) (hcat : (st.map fun v => v.category).sum ≤ 8) (kk : ∀ (v : Option Value) (V' : g_V) (S' : g_L), post2 v V' S' → JW G X cc "DykeFarmsLaw" (pc + 3) lv (v.toList ++ st) V' S') : JW G X cc "DykeFarmsLaw" pc lv st0 V S :=
  j_callV M hd hst (cl := 201) (by decide) (rfl) (T := T_M) (N := 24) (ci := 3) rfl (g_use (List.mem_of_getElem? (i := 778) (by decide +kernel)) rfl) (g_use (List.mem_of_getElem? (i := 779) (by decide +kernel)) rfl) (g_use (List.mem_of_getElem? (i := 780) (by decide +kernel)) rfl) (g_use (List.mem_of_getElem? (i := 55) (by decide +kernel)) rfl) mc_M_seed ⟨by decide +kernel, by decide +kernel, by rw [hlen]; decide +kernel⟩ ⟨hF.1.1, by have := hF.1.2; omega⟩ hF.2 hcat kk
theorem cl_L_136 (M : g_C G X.1 y_D_winters b_D_winters 5 (some .int) d2 (.ref (g_a G 0) :: As) V S post2) (hd : decode cc pc = .ok (.invokevirtual 136, 3)) (hst : st0 = As.reverse ++ .ref (g_a G 0) :: st) (hlen : As.length = 1) (hF : g_ft X d2) (hcat : (st.map fun v => v.category).sum ≤ 8) (kk : ∀ (v : Option Value) (V' : g_V) (S' : g_L), post2 v V' S' → JW G X cc "DykeFarmsLaw" (pc + 3) lv (v.toList ++ st) V' S') : JW G X cc "DykeFarmsLaw" pc lv st0 V S :=
  j_callV M hd hst (cl := 0) (by decide) (rfl) (T := T_D) (N := 18) (ci := 0) rfl (g_use (List.mem_of_getElem? (i := 450) (by decide +kernel)) rfl) (g_use (List.mem_of_getElem? (i := 451) (by decide +kernel)) rfl) (g_use (List.mem_of_getElem? (i := 452) (by decide +kernel)) rfl) (g_use (List.mem_of_getElem? (i := 52) (by decide +kernel)) rfl) mc_D_winters ⟨by decide +kernel, by decide +kernel, by rw [hlen]; decide +kernel⟩ ⟨hF.1.1, by have := hF.1.2; omega⟩ hF.2 hcat kk
theorem cl_L_139 (M : g_C G X.1 y_M_winters b_M_winters 4 (some .int) d2 (.ref (g_a G 201) :: As) V S post2) (hd : decode cc pc = .ok (.invokevirtual 139, 3)) (hst : st0 = As.reverse ++ .ref (g_a G 201) :: st) (hlen : As.length = 1) (hF : g_ft X d2) (hcat : (st.map fun v => v.category).sum ≤ 8) (kk : ∀ (v : Option Value) (V' : g_V) (S' : g_L), post2 v V' S' → JW G X cc "DykeFarmsLaw" (pc + 3) lv (v.toList ++ st) V' S') : JW G X cc "DykeFarmsLaw" pc lv st0 V S :=
  j_callV M hd hst (cl := 201) (by decide) (rfl) (T := T_M) (N := 24) (ci := 3) rfl (g_use (List.mem_of_getElem? (i := 782) (by decide +kernel)) rfl) (g_use (List.mem_of_getElem? (i := 783) (by decide +kernel)) rfl) (g_use (List.mem_of_getElem? (i := 784) (by decide +kernel)) rfl) (g_use (List.mem_of_getElem? (i := 55) (by decide +kernel)) rfl) mc_M_winters ⟨by decide +kernel, by decide +kernel, by rw [hlen]; decide +kernel⟩ ⟨hF.1.1, by have := hF.1.2; omega⟩ hF.2 hcat kk
theorem cl_L_140 (M : g_C G X.1 y_D_keep b_D_keep 2 (some .int) d2 (.ref (g_a G 0) :: As) V S post2) (hd : decode cc pc = .ok (.invokevirtual 140, 3)) (hst : st0 = As.reverse ++ .ref (g_a G 0) :: st) (hlen : As.length = 1) (hF : g_ft X d2) (hcat : (st.map fun v => v.category).sum ≤ 8) (kk : ∀ (v : Option Value) (V' : g_V) (S' : g_L), post2 v V' S' → JW G X cc "DykeFarmsLaw" (pc + 3) lv (v.toList ++ st) V' S') : JW G X cc "DykeFarmsLaw" pc lv st0 V S :=
  j_callV M hd hst (cl := 0) (by decide) (rfl) (T := T_D) (N := 18) (ci := 0) rfl (g_use (List.mem_of_getElem? (i := 457) (by decide +kernel)) rfl) (g_use (List.mem_of_getElem? (i := 458) (by decide +kernel)) rfl) (g_use (List.mem_of_getElem? (i := 459) (by decide +kernel)) rfl) (g_use (List.mem_of_getElem? (i := 52) (by decide +kernel)) rfl) mc_D_keep ⟨by decide +kernel, by decide +kernel, by rw [hlen]; decide +kernel⟩ ⟨hF.1.1, by have := hF.1.2; omega⟩ hF.2 hcat kk
theorem cl_L_143 (M : g_C G X.1 y_M_keep b_M_keep 3 (some .int) d2 (.ref (g_a G 201) :: As) V S post2) (hd : decode cc pc = .ok (.invokevirtual 143, 3)) (hst : st0 = As.reverse ++ .ref (g_a G 201) :: st) (hlen : As.length = 1) (hF : g_ft X d2) (hcat : (st.map fun v => v.category).sum ≤ 8) (kk : ∀ (v : Option Value) (V' : g_V) (S' : g_L), post2 v V' S' → JW G X cc "DykeFarmsLaw" (pc + 3) lv (v.toList ++ st) V' S') : JW G X cc "DykeFarmsLaw" pc lv st0 V S :=
  j_callV M hd hst (cl := 201) (by decide) (rfl) (T := T_M) (N := 24) (ci := 3) rfl (g_use (List.mem_of_getElem? (i := 789) (by decide +kernel)) rfl) (g_use (List.mem_of_getElem? (i := 790) (by decide +kernel)) rfl) (g_use (List.mem_of_getElem? (i := 791) (by decide +kernel)) rfl) (g_use (List.mem_of_getElem? (i := 55) (by decide +kernel)) rfl) mc_M_keep ⟨by decide +kernel, by decide +kernel, by rw [hlen]; decide +kernel⟩ ⟨hF.1.1, by have := hF.1.2; omega⟩ hF.2 hcat kk
theorem cl_L_144 (M : g_C G X.1 y_D_again b_D_again 2 (some .int) d2 (.ref (g_a G 0) :: As) V S post2) (hd : decode cc pc = .ok (.invokevirtual 144, 3)) (hst : st0 = As.reverse ++ .ref (g_a G 0) :: st) (hlen : As.length = 1) (hF : g_ft X d2) (hcat : (st.map fun v => v.category).sum ≤ 8) (kk : ∀ (v : Option Value) (V' : g_V) (S' : g_L), post2 v V' S' → JW G X cc "DykeFarmsLaw" (pc + 3) lv (v.toList ++ st) V' S') : JW G X cc "DykeFarmsLaw" pc lv st0 V S :=
  j_callV M hd hst (cl := 0) (by decide) (rfl) (T := T_D) (N := 18) (ci := 0) rfl (g_use (List.mem_of_getElem? (i := 461) (by decide +kernel)) rfl) (g_use (List.mem_of_getElem? (i := 462) (by decide +kernel)) rfl) (g_use (List.mem_of_getElem? (i := 463) (by decide +kernel)) rfl) (g_use (List.mem_of_getElem? (i := 52) (by decide +kernel)) rfl) mc_D_again ⟨by decide +kernel, by decide +kernel, by rw [hlen]; decide +kernel⟩ ⟨hF.1.1, by have := hF.1.2; omega⟩ hF.2 hcat kk
theorem cl_L_147 (M : g_C G X.1 y_M_again b_M_again 3 (some .int) d2 (.ref (g_a G 201) :: As) V S post2) (hd : decode cc pc = .ok (.invokevirtual 147, 3)) (hst : st0 = As.reverse ++ .ref (g_a G 201) :: st) (hlen : As.length = 1) (hF : g_ft X d2) (hcat : (st.map fun v => v.category).sum ≤ 8) (kk : ∀ (v : Option Value) (V' : g_V) (S' : g_L), post2 v V' S' → JW G X cc "DykeFarmsLaw" (pc + 3) lv (v.toList ++ st) V' S') : JW G X cc "DykeFarmsLaw" pc lv st0 V S :=
  j_callV M hd hst (cl := 201) (by decide) (rfl) (T := T_M) (N := 24) (ci := 3) rfl (g_use (List.mem_of_getElem? (i := 793) (by decide +kernel)) rfl) (g_use (List.mem_of_getElem? (i := 794) (by decide +kernel)) rfl) (g_use (List.mem_of_getElem? (i := 795) (by decide +kernel)) rfl) (g_use (List.mem_of_getElem? (i := 55) (by decide +kernel)) rfl) mc_M_again ⟨by decide +kernel, by decide +kernel, by rw [hlen]; decide +kernel⟩ ⟨hF.1.1, by have := hF.1.2; omega⟩ hF.2 hcat kk
theorem cl_L_17 (M : g_C G X.1 y_M_write b_M_write 2 (some .int) d2 (.ref (g_a G 201) :: As) V S post2) (hd : decode cc pc = .ok (.invokevirtual 17, 3)) (hst : st0 = As.reverse ++ .ref (g_a G 201) :: st) (hlen : As.length = 1) (hF : g_ft X d2) (hcat : (st.map fun v => v.category).sum ≤ 8) (kk : ∀ (v : Option Value) (V' : g_V) (S' : g_L), post2 v V' S' → JW G X cc "DykeFarmsLaw" (pc + 3) lv (v.toList ++ st) V' S') : JW G X cc "DykeFarmsLaw" pc lv st0 V S :=
  j_callV M hd hst (cl := 201) (by decide) (rfl) (T := T_M) (N := 24) (ci := 3) rfl (g_use (List.mem_of_getElem? (i := 545) (by decide +kernel)) rfl) (g_use (List.mem_of_getElem? (i := 546) (by decide +kernel)) rfl) (g_use (List.mem_of_getElem? (i := 547) (by decide +kernel)) rfl) (g_use (List.mem_of_getElem? (i := 55) (by decide +kernel)) rfl) mc_M_write ⟨by decide +kernel, by decide +kernel, by rw [hlen]; decide +kernel⟩ ⟨hF.1.1, by have := hF.1.2; omega⟩ hF.2 hcat kk
theorem cl_L_18 (M : g_C G X.1 y_D_wipe b_D_wipe 2 (some .int) d2 (.ref (g_a G 0) :: As) V S post2) (hd : decode cc pc = .ok (.invokevirtual 18, 3)) (hst : st0 = As.reverse ++ .ref (g_a G 0) :: st) (hlen : As.length = 0) (hF : g_ft X d2) (hcat : (st.map fun v => v.category).sum ≤ 8) (kk : ∀ (v : Option Value) (V' : g_V) (S' : g_L), post2 v V' S' → JW G X cc "DykeFarmsLaw" (pc + 3) lv (v.toList ++ st) V' S') : JW G X cc "DykeFarmsLaw" pc lv st0 V S :=
  j_callV M hd hst (cl := 0) (by decide) (rfl) (T := T_D) (N := 18) (ci := 0) rfl (g_use (List.mem_of_getElem? (i := 180) (by decide +kernel)) rfl) (g_use (List.mem_of_getElem? (i := 181) (by decide +kernel)) rfl) (g_use (List.mem_of_getElem? (i := 182) (by decide +kernel)) rfl) (g_use (List.mem_of_getElem? (i := 52) (by decide +kernel)) rfl) mc_D_wipe ⟨by decide +kernel, by decide +kernel, by rw [hlen]; decide +kernel⟩ ⟨hF.1.1, by have := hF.1.2; omega⟩ hF.2 hcat kk
theorem cl_L_22 (M : g_C G X.1 y_M_wipe b_M_wipe 2 (some .int) d2 (.ref (g_a G 201) :: As) V S post2) (hd : decode cc pc = .ok (.invokevirtual 22, 3)) (hst : st0 = As.reverse ++ .ref (g_a G 201) :: st) (hlen : As.length = 0) (hF : g_ft X d2) (hcat : (st.map fun v => v.category).sum ≤ 8) (kk : ∀ (v : Option Value) (V' : g_V) (S' : g_L), post2 v V' S' → JW G X cc "DykeFarmsLaw" (pc + 3) lv (v.toList ++ st) V' S') : JW G X cc "DykeFarmsLaw" pc lv st0 V S :=
  j_callV M hd hst (cl := 201) (by decide) (rfl) (T := T_M) (N := 24) (ci := 3) rfl (g_use (List.mem_of_getElem? (i := 553) (by decide +kernel)) rfl) (g_use (List.mem_of_getElem? (i := 554) (by decide +kernel)) rfl) (g_use (List.mem_of_getElem? (i := 555) (by decide +kernel)) rfl) (g_use (List.mem_of_getElem? (i := 55) (by decide +kernel)) rfl) mc_M_wipe ⟨by decide +kernel, by decide +kernel, by rw [hlen]; decide +kernel⟩ ⟨hF.1.1, by have := hF.1.2; omega⟩ hF.2 hcat kk
theorem cl_L_23 (M : g_C G X.1 y_D_fault b_D_fault 1 (some .int) d2 (.ref (g_a G 0) :: As) V S post2) (hd : decode cc pc = .ok (.invokevirtual 23, 3)) (hst : st0 = As.reverse ++ .ref (g_a G 0) :: st) (hlen : As.length = 0) (hF : g_ft X d2) (hcat : (st.map fun v => v.category).sum ≤ 8) (kk : ∀ (v : Option Value) (V' : g_V) (S' : g_L), post2 v V' S' → JW G X cc "DykeFarmsLaw" (pc + 3) lv (v.toList ++ st) V' S') : JW G X cc "DykeFarmsLaw" pc lv st0 V S :=
  j_callV M hd hst (cl := 0) (by decide) (rfl) (T := T_D) (N := 18) (ci := 0) rfl (g_use (List.mem_of_getElem? (i := 184) (by decide +kernel)) rfl) (g_use (List.mem_of_getElem? (i := 185) (by decide +kernel)) rfl) (g_use (List.mem_of_getElem? (i := 186) (by decide +kernel)) rfl) (g_use (List.mem_of_getElem? (i := 52) (by decide +kernel)) rfl) mc_D_fault ⟨by decide +kernel, by decide +kernel, by rw [hlen]; decide +kernel⟩ ⟨hF.1.1, by have := hF.1.2; omega⟩ hF.2 hcat kk
theorem cl_L_26 (M : g_C G X.1 y_M_fault b_M_fault 1 (some .int) d2 (.ref (g_a G 201) :: As) V S post2) (hd : decode cc pc = .ok (.invokevirtual 26, 3)) (hst : st0 = As.reverse ++ .ref (g_a G 201) :: st) (hlen : As.length = 0) (hF : g_ft X d2) (hcat : (st.map fun v => v.category).sum ≤ 8) (kk : ∀ (v : Option Value) (V' : g_V) (S' : g_L), post2 v V' S' → JW G X cc "DykeFarmsLaw" (pc + 3) lv (v.toList ++ st) V' S') : JW G X cc "DykeFarmsLaw" pc lv st0 V S :=
  j_callV M hd hst (cl := 201) (by decide) (rfl) (T := T_M) (N := 24) (ci := 3) rfl (g_use (List.mem_of_getElem? (i := 557) (by decide +kernel)) rfl) (g_use (List.mem_of_getElem? (i := 558) (by decide +kernel)) rfl) (g_use (List.mem_of_getElem? (i := 559) (by decide +kernel)) rfl) (g_use (List.mem_of_getElem? (i := 55) (by decide +kernel)) rfl) mc_M_fault ⟨by decide +kernel, by decide +kernel, by rw [hlen]; decide +kernel⟩ ⟨hF.1.1, by have := hF.1.2; omega⟩ hF.2 hcat kk
theorem cl_L_27 (M : g_C G X.1 y_D_dyke b_D_dyke 2 (some .int) d2 (.ref (g_a G 0) :: As) V S post2) (hd : decode cc pc = .ok (.invokevirtual 27, 3)) (hst : st0 = As.reverse ++ .ref (g_a G 0) :: st) (hlen : As.length = 0) (hF : g_ft X d2) (hcat : (st.map fun v => v.category).sum ≤ 8) (kk : ∀ (v : Option Value) (V' : g_V) (S' : g_L), post2 v V' S' → JW G X cc "DykeFarmsLaw" (pc + 3) lv (v.toList ++ st) V' S') : JW G X cc "DykeFarmsLaw" pc lv st0 V S :=
  j_callV M hd hst (cl := 0) (by decide) (rfl) (T := T_D) (N := 18) (ci := 0) rfl (g_use (List.mem_of_getElem? (i := 218) (by decide +kernel)) rfl) (g_use (List.mem_of_getElem? (i := 219) (by decide +kernel)) rfl) (g_use (List.mem_of_getElem? (i := 220) (by decide +kernel)) rfl) (g_use (List.mem_of_getElem? (i := 52) (by decide +kernel)) rfl) mc_D_dyke ⟨by decide +kernel, by decide +kernel, by rw [hlen]; decide +kernel⟩ ⟨hF.1.1, by have := hF.1.2; omega⟩ hF.2 hcat kk
theorem cl_L_30 (M : g_C G X.1 y_M_dyke b_M_dyke 2 (some .int) d2 (.ref (g_a G 201) :: As) V S post2) (hd : decode cc pc = .ok (.invokevirtual 30, 3)) (hst : st0 = As.reverse ++ .ref (g_a G 201) :: st) (hlen : As.length = 0) (hF : g_ft X d2) (hcat : (st.map fun v => v.category).sum ≤ 8) (kk : ∀ (v : Option Value) (V' : g_V) (S' : g_L), post2 v V' S' → JW G X cc "DykeFarmsLaw" (pc + 3) lv (v.toList ++ st) V' S') : JW G X cc "DykeFarmsLaw" pc lv st0 V S :=
  j_callV M hd hst (cl := 201) (by decide) (rfl) (T := T_M) (N := 24) (ci := 3) rfl (g_use (List.mem_of_getElem? (i := 588) (by decide +kernel)) rfl) (g_use (List.mem_of_getElem? (i := 589) (by decide +kernel)) rfl) (g_use (List.mem_of_getElem? (i := 590) (by decide +kernel)) rfl) (g_use (List.mem_of_getElem? (i := 55) (by decide +kernel)) rfl) mc_M_dyke ⟨by decide +kernel, by decide +kernel, by rw [hlen]; decide +kernel⟩ ⟨hF.1.1, by have := hF.1.2; omega⟩ hF.2 hcat kk
theorem cl_L_31 (M : g_C G X.1 y_D_about b_D_about 2 (some .int) d2 (.ref (g_a G 0) :: As) V S post2) (hd : decode cc pc = .ok (.invokevirtual 31, 3)) (hst : st0 = As.reverse ++ .ref (g_a G 0) :: st) (hlen : As.length = 1) (hF : g_ft X d2) (hcat : (st.map fun v => v.category).sum ≤ 8) (kk : ∀ (v : Option Value) (V' : g_V) (S' : g_L), post2 v V' S' → JW G X cc "DykeFarmsLaw" (pc + 3) lv (v.toList ++ st) V' S') : JW G X cc "DykeFarmsLaw" pc lv st0 V S :=
  j_callV M hd hst (cl := 0) (by decide) (rfl) (T := T_D) (N := 18) (ci := 0) rfl (g_use (List.mem_of_getElem? (i := 237) (by decide +kernel)) rfl) (g_use (List.mem_of_getElem? (i := 238) (by decide +kernel)) rfl) (g_use (List.mem_of_getElem? (i := 239) (by decide +kernel)) rfl) (g_use (List.mem_of_getElem? (i := 52) (by decide +kernel)) rfl) mc_D_about ⟨by decide +kernel, by decide +kernel, by rw [hlen]; decide +kernel⟩ ⟨hF.1.1, by have := hF.1.2; omega⟩ hF.2 hcat kk
theorem cl_L_34 (M : g_C G X.1 y_M_about b_M_about 2 (some .int) d2 (.ref (g_a G 201) :: As) V S post2) (hd : decode cc pc = .ok (.invokevirtual 34, 3)) (hst : st0 = As.reverse ++ .ref (g_a G 201) :: st) (hlen : As.length = 1) (hF : g_ft X d2) (hcat : (st.map fun v => v.category).sum ≤ 8) (kk : ∀ (v : Option Value) (V' : g_V) (S' : g_L), post2 v V' S' → JW G X cc "DykeFarmsLaw" (pc + 3) lv (v.toList ++ st) V' S') : JW G X cc "DykeFarmsLaw" pc lv st0 V S :=
  j_callV M hd hst (cl := 201) (by decide) (rfl) (T := T_M) (N := 24) (ci := 3) rfl (g_use (List.mem_of_getElem? (i := 592) (by decide +kernel)) rfl) (g_use (List.mem_of_getElem? (i := 593) (by decide +kernel)) rfl) (g_use (List.mem_of_getElem? (i := 594) (by decide +kernel)) rfl) (g_use (List.mem_of_getElem? (i := 55) (by decide +kernel)) rfl) mc_M_about ⟨by decide +kernel, by decide +kernel, by rw [hlen]; decide +kernel⟩ ⟨hF.1.1, by have := hF.1.2; omega⟩ hF.2 hcat kk
theorem cl_L_35 (M : g_C G X.1 y_D_farm b_D_farm 3 (some .int) d2 (.ref (g_a G 0) :: As) V S post2) (hd : decode cc pc = .ok (.invokevirtual 35, 3)) (hst : st0 = As.reverse ++ .ref (g_a G 0) :: st) (hlen : As.length = 2) (hF : g_ft X d2) (hcat : (st.map fun v => v.category).sum ≤ 8) (kk : ∀ (v : Option Value) (V' : g_V) (S' : g_L), post2 v V' S' → JW G X cc "DykeFarmsLaw" (pc + 3) lv (v.toList ++ st) V' S') : JW G X cc "DykeFarmsLaw" pc lv st0 V S :=
  j_callV M hd hst (cl := 0) (by decide) (rfl) (T := T_D) (N := 18) (ci := 0) rfl (g_use (List.mem_of_getElem? (i := 250) (by decide +kernel)) rfl) (g_use (List.mem_of_getElem? (i := 251) (by decide +kernel)) rfl) (g_use (List.mem_of_getElem? (i := 252) (by decide +kernel)) rfl) (g_use (List.mem_of_getElem? (i := 52) (by decide +kernel)) rfl) mc_D_farm ⟨by decide +kernel, by decide +kernel, by rw [hlen]; decide +kernel⟩ ⟨hF.1.1, by have := hF.1.2; omega⟩ hF.2 hcat kk
theorem cl_L_39 (M : g_C G X.1 y_M_farm b_M_farm 3 (some .int) d2 (.ref (g_a G 201) :: As) V S post2) (hd : decode cc pc = .ok (.invokevirtual 39, 3)) (hst : st0 = As.reverse ++ .ref (g_a G 201) :: st) (hlen : As.length = 2) (hF : g_ft X d2) (hcat : (st.map fun v => v.category).sum ≤ 8) (kk : ∀ (v : Option Value) (V' : g_V) (S' : g_L), post2 v V' S' → JW G X cc "DykeFarmsLaw" (pc + 3) lv (v.toList ++ st) V' S') : JW G X cc "DykeFarmsLaw" pc lv st0 V S :=
  j_callV M hd hst (cl := 201) (by decide) (rfl) (T := T_M) (N := 24) (ci := 3) rfl (g_use (List.mem_of_getElem? (i := 604) (by decide +kernel)) rfl) (g_use (List.mem_of_getElem? (i := 605) (by decide +kernel)) rfl) (g_use (List.mem_of_getElem? (i := 606) (by decide +kernel)) rfl) (g_use (List.mem_of_getElem? (i := 55) (by decide +kernel)) rfl) mc_M_farm ⟨by decide +kernel, by decide +kernel, by rw [hlen]; decide +kernel⟩ ⟨hF.1.1, by have := hF.1.2; omega⟩ hF.2 hcat kk
theorem cl_L_40 (M : g_C G X.1 y_D_owes b_D_owes 3 (some .int) d2 (.ref (g_a G 0) :: As) V S post2) (hd : decode cc pc = .ok (.invokevirtual 40, 3)) (hst : st0 = As.reverse ++ .ref (g_a G 0) :: st) (hlen : As.length = 2) (hF : g_ft X d2) (hcat : (st.map fun v => v.category).sum ≤ 8) (kk : ∀ (v : Option Value) (V' : g_V) (S' : g_L), post2 v V' S' → JW G X cc "DykeFarmsLaw" (pc + 3) lv (v.toList ++ st) V' S') : JW G X cc "DykeFarmsLaw" pc lv st0 V S :=
  j_callV M hd hst (cl := 0) (by decide) (rfl) (T := T_D) (N := 18) (ci := 0) rfl (g_use (List.mem_of_getElem? (i := 262) (by decide +kernel)) rfl) (g_use (List.mem_of_getElem? (i := 263) (by decide +kernel)) rfl) (g_use (List.mem_of_getElem? (i := 264) (by decide +kernel)) rfl) (g_use (List.mem_of_getElem? (i := 52) (by decide +kernel)) rfl) mc_D_owes ⟨by decide +kernel, by decide +kernel, by rw [hlen]; decide +kernel⟩ ⟨hF.1.1, by have := hF.1.2; omega⟩ hF.2 hcat kk
theorem cl_L_43 (M : g_C G X.1 y_M_owes b_M_owes 3 (some .int) d2 (.ref (g_a G 201) :: As) V S post2) (hd : decode cc pc = .ok (.invokevirtual 43, 3)) (hst : st0 = As.reverse ++ .ref (g_a G 201) :: st) (hlen : As.length = 2) (hF : g_ft X d2) (hcat : (st.map fun v => v.category).sum ≤ 8) (kk : ∀ (v : Option Value) (V' : g_V) (S' : g_L), post2 v V' S' → JW G X cc "DykeFarmsLaw" (pc + 3) lv (v.toList ++ st) V' S') : JW G X cc "DykeFarmsLaw" pc lv st0 V S :=
  j_callV M hd hst (cl := 201) (by decide) (rfl) (T := T_M) (N := 24) (ci := 3) rfl (g_use (List.mem_of_getElem? (i := 616) (by decide +kernel)) rfl) (g_use (List.mem_of_getElem? (i := 617) (by decide +kernel)) rfl) (g_use (List.mem_of_getElem? (i := 618) (by decide +kernel)) rfl) (g_use (List.mem_of_getElem? (i := 55) (by decide +kernel)) rfl) mc_M_owes ⟨by decide +kernel, by decide +kernel, by rw [hlen]; decide +kernel⟩ ⟨hF.1.1, by have := hF.1.2; omega⟩ hF.2 hcat kk
theorem cl_L_44 (M : g_C G X.1 y_D_storm b_D_storm 3 (some .int) d2 (.ref (g_a G 0) :: As) V S post2) (hd : decode cc pc = .ok (.invokevirtual 44, 3)) (hst : st0 = As.reverse ++ .ref (g_a G 0) :: st) (hlen : As.length = 1) (hF : g_ft X d2) (hcat : (st.map fun v => v.category).sum ≤ 8) (kk : ∀ (v : Option Value) (V' : g_V) (S' : g_L), post2 v V' S' → JW G X cc "DykeFarmsLaw" (pc + 3) lv (v.toList ++ st) V' S') : JW G X cc "DykeFarmsLaw" pc lv st0 V S :=
  j_callV M hd hst (cl := 0) (by decide) (rfl) (T := T_D) (N := 18) (ci := 0) rfl (g_use (List.mem_of_getElem? (i := 266) (by decide +kernel)) rfl) (g_use (List.mem_of_getElem? (i := 267) (by decide +kernel)) rfl) (g_use (List.mem_of_getElem? (i := 268) (by decide +kernel)) rfl) (g_use (List.mem_of_getElem? (i := 52) (by decide +kernel)) rfl) mc_D_storm ⟨by decide +kernel, by decide +kernel, by rw [hlen]; decide +kernel⟩ ⟨hF.1.1, by have := hF.1.2; omega⟩ hF.2 hcat kk
theorem cl_L_47 (M : g_C G X.1 y_M_storm b_M_storm 2 (some .int) d2 (.ref (g_a G 201) :: As) V S post2) (hd : decode cc pc = .ok (.invokevirtual 47, 3)) (hst : st0 = As.reverse ++ .ref (g_a G 201) :: st) (hlen : As.length = 1) (hF : g_ft X d2) (hcat : (st.map fun v => v.category).sum ≤ 8) (kk : ∀ (v : Option Value) (V' : g_V) (S' : g_L), post2 v V' S' → JW G X cc "DykeFarmsLaw" (pc + 3) lv (v.toList ++ st) V' S') : JW G X cc "DykeFarmsLaw" pc lv st0 V S :=
  j_callV M hd hst (cl := 201) (by decide) (rfl) (T := T_M) (N := 24) (ci := 3) rfl (g_use (List.mem_of_getElem? (i := 620) (by decide +kernel)) rfl) (g_use (List.mem_of_getElem? (i := 621) (by decide +kernel)) rfl) (g_use (List.mem_of_getElem? (i := 622) (by decide +kernel)) rfl) (g_use (List.mem_of_getElem? (i := 55) (by decide +kernel)) rfl) mc_M_storm ⟨by decide +kernel, by decide +kernel, by rw [hlen]; decide +kernel⟩ ⟨hF.1.1, by have := hF.1.2; omega⟩ hF.2 hcat kk
theorem cl_L_48 (M : g_C G X.1 y_D_carry b_D_carry 3 (some .int) d2 (.ref (g_a G 0) :: As) V S post2) (hd : decode cc pc = .ok (.invokevirtual 48, 3)) (hst : st0 = As.reverse ++ .ref (g_a G 0) :: st) (hlen : As.length = 2) (hF : g_ft X d2) (hcat : (st.map fun v => v.category).sum ≤ 8) (kk : ∀ (v : Option Value) (V' : g_V) (S' : g_L), post2 v V' S' → JW G X cc "DykeFarmsLaw" (pc + 3) lv (v.toList ++ st) V' S') : JW G X cc "DykeFarmsLaw" pc lv st0 V S :=
  j_callV M hd hst (cl := 0) (by decide) (rfl) (T := T_D) (N := 18) (ci := 0) rfl (g_use (List.mem_of_getElem? (i := 307) (by decide +kernel)) rfl) (g_use (List.mem_of_getElem? (i := 308) (by decide +kernel)) rfl) (g_use (List.mem_of_getElem? (i := 309) (by decide +kernel)) rfl) (g_use (List.mem_of_getElem? (i := 52) (by decide +kernel)) rfl) mc_D_carry ⟨by decide +kernel, by decide +kernel, by rw [hlen]; decide +kernel⟩ ⟨hF.1.1, by have := hF.1.2; omega⟩ hF.2 hcat kk
theorem cl_L_51 (M : g_C G X.1 y_M_carry b_M_carry 3 (some .int) d2 (.ref (g_a G 201) :: As) V S post2) (hd : decode cc pc = .ok (.invokevirtual 51, 3)) (hst : st0 = As.reverse ++ .ref (g_a G 201) :: st) (hlen : As.length = 2) (hF : g_ft X d2) (hcat : (st.map fun v => v.category).sum ≤ 8) (kk : ∀ (v : Option Value) (V' : g_V) (S' : g_L), post2 v V' S' → JW G X cc "DykeFarmsLaw" (pc + 3) lv (v.toList ++ st) V' S') : JW G X cc "DykeFarmsLaw" pc lv st0 V S :=
  j_callV M hd hst (cl := 201) (by decide) (rfl) (T := T_M) (N := 24) (ci := 3) rfl (g_use (List.mem_of_getElem? (i := 648) (by decide +kernel)) rfl) (g_use (List.mem_of_getElem? (i := 649) (by decide +kernel)) rfl) (g_use (List.mem_of_getElem? (i := 650) (by decide +kernel)) rfl) (g_use (List.mem_of_getElem? (i := 55) (by decide +kernel)) rfl) mc_M_carry ⟨by decide +kernel, by decide +kernel, by rw [hlen]; decide +kernel⟩ ⟨hF.1.1, by have := hF.1.2; omega⟩ hF.2 hcat kk
theorem cl_L_52 (M : g_C G X.1 y_D_lend b_D_lend 3 (some .int) d2 (.ref (g_a G 0) :: As) V S post2) (hd : decode cc pc = .ok (.invokevirtual 52, 3)) (hst : st0 = As.reverse ++ .ref (g_a G 0) :: st) (hlen : As.length = 2) (hF : g_ft X d2) (hcat : (st.map fun v => v.category).sum ≤ 8) (kk : ∀ (v : Option Value) (V' : g_V) (S' : g_L), post2 v V' S' → JW G X cc "DykeFarmsLaw" (pc + 3) lv (v.toList ++ st) V' S') : JW G X cc "DykeFarmsLaw" pc lv st0 V S :=
  j_callV M hd hst (cl := 0) (by decide) (rfl) (T := T_D) (N := 18) (ci := 0) rfl (g_use (List.mem_of_getElem? (i := 311) (by decide +kernel)) rfl) (g_use (List.mem_of_getElem? (i := 312) (by decide +kernel)) rfl) (g_use (List.mem_of_getElem? (i := 313) (by decide +kernel)) rfl) (g_use (List.mem_of_getElem? (i := 52) (by decide +kernel)) rfl) mc_D_lend ⟨by decide +kernel, by decide +kernel, by rw [hlen]; decide +kernel⟩ ⟨hF.1.1, by have := hF.1.2; omega⟩ hF.2 hcat kk
theorem cl_L_55 (M : g_C G X.1 y_M_lend b_M_lend 3 (some .int) d2 (.ref (g_a G 201) :: As) V S post2) (hd : decode cc pc = .ok (.invokevirtual 55, 3)) (hst : st0 = As.reverse ++ .ref (g_a G 201) :: st) (hlen : As.length = 2) (hF : g_ft X d2) (hcat : (st.map fun v => v.category).sum ≤ 8) (kk : ∀ (v : Option Value) (V' : g_V) (S' : g_L), post2 v V' S' → JW G X cc "DykeFarmsLaw" (pc + 3) lv (v.toList ++ st) V' S') : JW G X cc "DykeFarmsLaw" pc lv st0 V S :=
  j_callV M hd hst (cl := 201) (by decide) (rfl) (T := T_M) (N := 24) (ci := 3) rfl (g_use (List.mem_of_getElem? (i := 652) (by decide +kernel)) rfl) (g_use (List.mem_of_getElem? (i := 653) (by decide +kernel)) rfl) (g_use (List.mem_of_getElem? (i := 654) (by decide +kernel)) rfl) (g_use (List.mem_of_getElem? (i := 55) (by decide +kernel)) rfl) mc_M_lend ⟨by decide +kernel, by decide +kernel, by rw [hlen]; decide +kernel⟩ ⟨hF.1.1, by have := hF.1.2; omega⟩ hF.2 hcat kk
theorem cl_L_56 (M : g_C G X.1 y_D_stick b_D_stick 2 (some .int) d2 (.ref (g_a G 0) :: As) V S post2) (hd : decode cc pc = .ok (.invokevirtual 56, 3)) (hst : st0 = As.reverse ++ .ref (g_a G 0) :: st) (hlen : As.length = 1) (hF : g_ft X d2) (hcat : (st.map fun v => v.category).sum ≤ 8) (kk : ∀ (v : Option Value) (V' : g_V) (S' : g_L), post2 v V' S' → JW G X cc "DykeFarmsLaw" (pc + 3) lv (v.toList ++ st) V' S') : JW G X cc "DykeFarmsLaw" pc lv st0 V S :=
  j_callV M hd hst (cl := 0) (by decide) (rfl) (T := T_D) (N := 18) (ci := 0) rfl (g_use (List.mem_of_getElem? (i := 315) (by decide +kernel)) rfl) (g_use (List.mem_of_getElem? (i := 316) (by decide +kernel)) rfl) (g_use (List.mem_of_getElem? (i := 317) (by decide +kernel)) rfl) (g_use (List.mem_of_getElem? (i := 52) (by decide +kernel)) rfl) mc_D_stick ⟨by decide +kernel, by decide +kernel, by rw [hlen]; decide +kernel⟩ ⟨hF.1.1, by have := hF.1.2; omega⟩ hF.2 hcat kk
theorem cl_L_59 (M : g_C G X.1 y_M_stick b_M_stick 2 (some .int) d2 (.ref (g_a G 201) :: As) V S post2) (hd : decode cc pc = .ok (.invokevirtual 59, 3)) (hst : st0 = As.reverse ++ .ref (g_a G 201) :: st) (hlen : As.length = 1) (hF : g_ft X d2) (hcat : (st.map fun v => v.category).sum ≤ 8) (kk : ∀ (v : Option Value) (V' : g_V) (S' : g_L), post2 v V' S' → JW G X cc "DykeFarmsLaw" (pc + 3) lv (v.toList ++ st) V' S') : JW G X cc "DykeFarmsLaw" pc lv st0 V S :=
  j_callV M hd hst (cl := 201) (by decide) (rfl) (T := T_M) (N := 24) (ci := 3) rfl (g_use (List.mem_of_getElem? (i := 656) (by decide +kernel)) rfl) (g_use (List.mem_of_getElem? (i := 657) (by decide +kernel)) rfl) (g_use (List.mem_of_getElem? (i := 658) (by decide +kernel)) rfl) (g_use (List.mem_of_getElem? (i := 55) (by decide +kernel)) rfl) mc_M_stick ⟨by decide +kernel, by decide +kernel, by rw [hlen]; decide +kernel⟩ ⟨hF.1.1, by have := hF.1.2; omega⟩ hF.2 hcat kk
theorem cl_L_60 (M : g_C G X.1 y_D_pull b_D_pull 4 (some .int) d2 (.ref (g_a G 0) :: As) V S post2) (hd : decode cc pc = .ok (.invokevirtual 60, 3)) (hst : st0 = As.reverse ++ .ref (g_a G 0) :: st) (hlen : As.length = 2) (hF : g_ft X d2) (hcat : (st.map fun v => v.category).sum ≤ 8) (kk : ∀ (v : Option Value) (V' : g_V) (S' : g_L), post2 v V' S' → JW G X cc "DykeFarmsLaw" (pc + 3) lv (v.toList ++ st) V' S') : JW G X cc "DykeFarmsLaw" pc lv st0 V S :=
  j_callV M hd hst (cl := 0) (by decide) (rfl) (T := T_D) (N := 18) (ci := 0) rfl (g_use (List.mem_of_getElem? (i := 319) (by decide +kernel)) rfl) (g_use (List.mem_of_getElem? (i := 320) (by decide +kernel)) rfl) (g_use (List.mem_of_getElem? (i := 321) (by decide +kernel)) rfl) (g_use (List.mem_of_getElem? (i := 52) (by decide +kernel)) rfl) mc_D_pull ⟨by decide +kernel, by decide +kernel, by rw [hlen]; decide +kernel⟩ ⟨hF.1.1, by have := hF.1.2; omega⟩ hF.2 hcat kk
theorem cl_L_63 (M : g_C G X.1 y_M_pull b_M_pull 4 (some .int) d2 (.ref (g_a G 201) :: As) V S post2) (hd : decode cc pc = .ok (.invokevirtual 63, 3)) (hst : st0 = As.reverse ++ .ref (g_a G 201) :: st) (hlen : As.length = 2) (hF : g_ft X d2) (hcat : (st.map fun v => v.category).sum ≤ 8) (kk : ∀ (v : Option Value) (V' : g_V) (S' : g_L), post2 v V' S' → JW G X cc "DykeFarmsLaw" (pc + 3) lv (v.toList ++ st) V' S') : JW G X cc "DykeFarmsLaw" pc lv st0 V S :=
  j_callV M hd hst (cl := 201) (by decide) (rfl) (T := T_M) (N := 24) (ci := 3) rfl (g_use (List.mem_of_getElem? (i := 660) (by decide +kernel)) rfl) (g_use (List.mem_of_getElem? (i := 661) (by decide +kernel)) rfl) (g_use (List.mem_of_getElem? (i := 662) (by decide +kernel)) rfl) (g_use (List.mem_of_getElem? (i := 55) (by decide +kernel)) rfl) mc_M_pull ⟨by decide +kernel, by decide +kernel, by rw [hlen]; decide +kernel⟩ ⟨hF.1.1, by have := hF.1.2; omega⟩ hF.2 hcat kk
theorem cl_L_64 (M : g_C G X.1 y_D_dam b_D_dam 2 (some .int) d2 (.ref (g_a G 0) :: As) V S post2) (hd : decode cc pc = .ok (.invokevirtual 64, 3)) (hst : st0 = As.reverse ++ .ref (g_a G 0) :: st) (hlen : As.length = 1) (hF : g_ft X d2) (hcat : (st.map fun v => v.category).sum ≤ 8) (kk : ∀ (v : Option Value) (V' : g_V) (S' : g_L), post2 v V' S' → JW G X cc "DykeFarmsLaw" (pc + 3) lv (v.toList ++ st) V' S') : JW G X cc "DykeFarmsLaw" pc lv st0 V S :=
  j_callV M hd hst (cl := 0) (by decide) (rfl) (T := T_D) (N := 18) (ci := 0) rfl (g_use (List.mem_of_getElem? (i := 323) (by decide +kernel)) rfl) (g_use (List.mem_of_getElem? (i := 324) (by decide +kernel)) rfl) (g_use (List.mem_of_getElem? (i := 325) (by decide +kernel)) rfl) (g_use (List.mem_of_getElem? (i := 52) (by decide +kernel)) rfl) mc_D_dam ⟨by decide +kernel, by decide +kernel, by rw [hlen]; decide +kernel⟩ ⟨hF.1.1, by have := hF.1.2; omega⟩ hF.2 hcat kk
theorem cl_L_67 (M : g_C G X.1 y_M_dam b_M_dam 2 (some .int) d2 (.ref (g_a G 201) :: As) V S post2) (hd : decode cc pc = .ok (.invokevirtual 67, 3)) (hst : st0 = As.reverse ++ .ref (g_a G 201) :: st) (hlen : As.length = 1) (hF : g_ft X d2) (hcat : (st.map fun v => v.category).sum ≤ 8) (kk : ∀ (v : Option Value) (V' : g_V) (S' : g_L), post2 v V' S' → JW G X cc "DykeFarmsLaw" (pc + 3) lv (v.toList ++ st) V' S') : JW G X cc "DykeFarmsLaw" pc lv st0 V S :=
  j_callV M hd hst (cl := 201) (by decide) (rfl) (T := T_M) (N := 24) (ci := 3) rfl (g_use (List.mem_of_getElem? (i := 664) (by decide +kernel)) rfl) (g_use (List.mem_of_getElem? (i := 665) (by decide +kernel)) rfl) (g_use (List.mem_of_getElem? (i := 666) (by decide +kernel)) rfl) (g_use (List.mem_of_getElem? (i := 55) (by decide +kernel)) rfl) mc_M_dam ⟨by decide +kernel, by decide +kernel, by rw [hlen]; decide +kernel⟩ ⟨hF.1.1, by have := hF.1.2; omega⟩ hF.2 hcat kk
theorem cl_L_68 (M : g_C G X.1 y_D_undo b_D_undo 1 (some .int) d2 (.ref (g_a G 0) :: As) V S post2) (hd : decode cc pc = .ok (.invokevirtual 68, 3)) (hst : st0 = As.reverse ++ .ref (g_a G 0) :: st) (hlen : As.length = 0) (hF : g_ft X d2) (hcat : (st.map fun v => v.category).sum ≤ 8) (kk : ∀ (v : Option Value) (V' : g_V) (S' : g_L), post2 v V' S' → JW G X cc "DykeFarmsLaw" (pc + 3) lv (v.toList ++ st) V' S') : JW G X cc "DykeFarmsLaw" pc lv st0 V S :=
  j_callV M hd hst (cl := 0) (by decide) (rfl) (T := T_D) (N := 18) (ci := 0) rfl (g_use (List.mem_of_getElem? (i := 327) (by decide +kernel)) rfl) (g_use (List.mem_of_getElem? (i := 328) (by decide +kernel)) rfl) (g_use (List.mem_of_getElem? (i := 329) (by decide +kernel)) rfl) (g_use (List.mem_of_getElem? (i := 52) (by decide +kernel)) rfl) mc_D_undo ⟨by decide +kernel, by decide +kernel, by rw [hlen]; decide +kernel⟩ ⟨hF.1.1, by have := hF.1.2; omega⟩ hF.2 hcat kk
theorem cl_L_71 (M : g_C G X.1 y_M_undo b_M_undo 2 (some .int) d2 (.ref (g_a G 201) :: As) V S post2) (hd : decode cc pc = .ok (.invokevirtual 71, 3)) (hst : st0 = As.reverse ++ .ref (g_a G 201) :: st) (hlen : As.length = 0) (hF : g_ft X d2) (hcat : (st.map fun v => v.category).sum ≤ 8) (kk : ∀ (v : Option Value) (V' : g_V) (S' : g_L), post2 v V' S' → JW G X cc "DykeFarmsLaw" (pc + 3) lv (v.toList ++ st) V' S') : JW G X cc "DykeFarmsLaw" pc lv st0 V S :=
  j_callV M hd hst (cl := 201) (by decide) (rfl) (T := T_M) (N := 24) (ci := 3) rfl (g_use (List.mem_of_getElem? (i := 668) (by decide +kernel)) rfl) (g_use (List.mem_of_getElem? (i := 669) (by decide +kernel)) rfl) (g_use (List.mem_of_getElem? (i := 670) (by decide +kernel)) rfl) (g_use (List.mem_of_getElem? (i := 55) (by decide +kernel)) rfl) mc_M_undo ⟨by decide +kernel, by decide +kernel, by rw [hlen]; decide +kernel⟩ ⟨hF.1.1, by have := hF.1.2; omega⟩ hF.2 hcat kk
theorem cl_L_72 (M : g_C G X.1 y_D_breaks b_D_breaks 2 (some .int) d2 (.ref (g_a G 0) :: As) V S post2) (hd : decode cc pc = .ok (.invokevirtual 72, 3)) (hst : st0 = As.reverse ++ .ref (g_a G 0) :: st) (hlen : As.length = 1) (hF : g_ft X d2) (hcat : (st.map fun v => v.category).sum ≤ 8) (kk : ∀ (v : Option Value) (V' : g_V) (S' : g_L), post2 v V' S' → JW G X cc "DykeFarmsLaw" (pc + 3) lv (v.toList ++ st) V' S') : JW G X cc "DykeFarmsLaw" pc lv st0 V S :=
  j_callV M hd hst (cl := 0) (by decide) (rfl) (T := T_D) (N := 18) (ci := 0) rfl (g_use (List.mem_of_getElem? (i := 331) (by decide +kernel)) rfl) (g_use (List.mem_of_getElem? (i := 332) (by decide +kernel)) rfl) (g_use (List.mem_of_getElem? (i := 333) (by decide +kernel)) rfl) (g_use (List.mem_of_getElem? (i := 52) (by decide +kernel)) rfl) mc_D_breaks ⟨by decide +kernel, by decide +kernel, by rw [hlen]; decide +kernel⟩ ⟨hF.1.1, by have := hF.1.2; omega⟩ hF.2 hcat kk
theorem cl_L_75 (M : g_C G X.1 y_M_breaks b_M_breaks 2 (some .int) d2 (.ref (g_a G 201) :: As) V S post2) (hd : decode cc pc = .ok (.invokevirtual 75, 3)) (hst : st0 = As.reverse ++ .ref (g_a G 201) :: st) (hlen : As.length = 1) (hF : g_ft X d2) (hcat : (st.map fun v => v.category).sum ≤ 8) (kk : ∀ (v : Option Value) (V' : g_V) (S' : g_L), post2 v V' S' → JW G X cc "DykeFarmsLaw" (pc + 3) lv (v.toList ++ st) V' S') : JW G X cc "DykeFarmsLaw" pc lv st0 V S :=
  j_callV M hd hst (cl := 201) (by decide) (rfl) (T := T_M) (N := 24) (ci := 3) rfl (g_use (List.mem_of_getElem? (i := 672) (by decide +kernel)) rfl) (g_use (List.mem_of_getElem? (i := 673) (by decide +kernel)) rfl) (g_use (List.mem_of_getElem? (i := 674) (by decide +kernel)) rfl) (g_use (List.mem_of_getElem? (i := 55) (by decide +kernel)) rfl) mc_M_breaks ⟨by decide +kernel, by decide +kernel, by rw [hlen]; decide +kernel⟩ ⟨hF.1.1, by have := hF.1.2; omega⟩ hF.2 hcat kk
theorem cl_L_76 (M : g_C G X.1 y_D_drowns b_D_drowns 2 (some .int) d2 (.ref (g_a G 0) :: As) V S post2) (hd : decode cc pc = .ok (.invokevirtual 76, 3)) (hst : st0 = As.reverse ++ .ref (g_a G 0) :: st) (hlen : As.length = 1) (hF : g_ft X d2) (hcat : (st.map fun v => v.category).sum ≤ 8) (kk : ∀ (v : Option Value) (V' : g_V) (S' : g_L), post2 v V' S' → JW G X cc "DykeFarmsLaw" (pc + 3) lv (v.toList ++ st) V' S') : JW G X cc "DykeFarmsLaw" pc lv st0 V S :=
  j_callV M hd hst (cl := 0) (by decide) (rfl) (T := T_D) (N := 18) (ci := 0) rfl (g_use (List.mem_of_getElem? (i := 339) (by decide +kernel)) rfl) (g_use (List.mem_of_getElem? (i := 340) (by decide +kernel)) rfl) (g_use (List.mem_of_getElem? (i := 341) (by decide +kernel)) rfl) (g_use (List.mem_of_getElem? (i := 52) (by decide +kernel)) rfl) mc_D_drowns ⟨by decide +kernel, by decide +kernel, by rw [hlen]; decide +kernel⟩ ⟨hF.1.1, by have := hF.1.2; omega⟩ hF.2 hcat kk
theorem cl_L_79 (M : g_C G X.1 y_M_drowns b_M_drowns 2 (some .int) d2 (.ref (g_a G 201) :: As) V S post2) (hd : decode cc pc = .ok (.invokevirtual 79, 3)) (hst : st0 = As.reverse ++ .ref (g_a G 201) :: st) (hlen : As.length = 1) (hF : g_ft X d2) (hcat : (st.map fun v => v.category).sum ≤ 8) (kk : ∀ (v : Option Value) (V' : g_V) (S' : g_L), post2 v V' S' → JW G X cc "DykeFarmsLaw" (pc + 3) lv (v.toList ++ st) V' S') : JW G X cc "DykeFarmsLaw" pc lv st0 V S :=
  j_callV M hd hst (cl := 201) (by decide) (rfl) (T := T_M) (N := 24) (ci := 3) rfl (g_use (List.mem_of_getElem? (i := 676) (by decide +kernel)) rfl) (g_use (List.mem_of_getElem? (i := 677) (by decide +kernel)) rfl) (g_use (List.mem_of_getElem? (i := 678) (by decide +kernel)) rfl) (g_use (List.mem_of_getElem? (i := 55) (by decide +kernel)) rfl) mc_M_drowns ⟨by decide +kernel, by decide +kernel, by rw [hlen]; decide +kernel⟩ ⟨hF.1.1, by have := hF.1.2; omega⟩ hF.2 hcat kk
theorem cl_L_80 (M : g_C G X.1 y_D_loss b_D_loss 2 (some .int) d2 (.ref (g_a G 0) :: As) V S post2) (hd : decode cc pc = .ok (.invokevirtual 80, 3)) (hst : st0 = As.reverse ++ .ref (g_a G 0) :: st) (hlen : As.length = 1) (hF : g_ft X d2) (hcat : (st.map fun v => v.category).sum ≤ 8) (kk : ∀ (v : Option Value) (V' : g_V) (S' : g_L), post2 v V' S' → JW G X cc "DykeFarmsLaw" (pc + 3) lv (v.toList ++ st) V' S') : JW G X cc "DykeFarmsLaw" pc lv st0 V S :=
  j_callV M hd hst (cl := 0) (by decide) (rfl) (T := T_D) (N := 18) (ci := 0) rfl (g_use (List.mem_of_getElem? (i := 343) (by decide +kernel)) rfl) (g_use (List.mem_of_getElem? (i := 344) (by decide +kernel)) rfl) (g_use (List.mem_of_getElem? (i := 345) (by decide +kernel)) rfl) (g_use (List.mem_of_getElem? (i := 52) (by decide +kernel)) rfl) mc_D_loss ⟨by decide +kernel, by decide +kernel, by rw [hlen]; decide +kernel⟩ ⟨hF.1.1, by have := hF.1.2; omega⟩ hF.2 hcat kk
theorem cl_L_83 (M : g_C G X.1 y_M_loss b_M_loss 2 (some .int) d2 (.ref (g_a G 201) :: As) V S post2) (hd : decode cc pc = .ok (.invokevirtual 83, 3)) (hst : st0 = As.reverse ++ .ref (g_a G 201) :: st) (hlen : As.length = 1) (hF : g_ft X d2) (hcat : (st.map fun v => v.category).sum ≤ 8) (kk : ∀ (v : Option Value) (V' : g_V) (S' : g_L), post2 v V' S' → JW G X cc "DykeFarmsLaw" (pc + 3) lv (v.toList ++ st) V' S') : JW G X cc "DykeFarmsLaw" pc lv st0 V S :=
  j_callV M hd hst (cl := 201) (by decide) (rfl) (T := T_M) (N := 24) (ci := 3) rfl (g_use (List.mem_of_getElem? (i := 680) (by decide +kernel)) rfl) (g_use (List.mem_of_getElem? (i := 681) (by decide +kernel)) rfl) (g_use (List.mem_of_getElem? (i := 682) (by decide +kernel)) rfl) (g_use (List.mem_of_getElem? (i := 55) (by decide +kernel)) rfl) mc_M_loss ⟨by decide +kernel, by decide +kernel, by rw [hlen]; decide +kernel⟩ ⟨hF.1.1, by have := hF.1.2; omega⟩ hF.2 hcat kk
theorem cl_L_84 (M : g_C G X.1 y_D_needs b_D_needs 2 (some .int) d2 (.ref (g_a G 0) :: As) V S post2) (hd : decode cc pc = .ok (.invokevirtual 84, 3)) (hst : st0 = As.reverse ++ .ref (g_a G 0) :: st) (hlen : As.length = 1) (hF : g_ft X d2) (hcat : (st.map fun v => v.category).sum ≤ 8) (kk : ∀ (v : Option Value) (V' : g_V) (S' : g_L), post2 v V' S' → JW G X cc "DykeFarmsLaw" (pc + 3) lv (v.toList ++ st) V' S') : JW G X cc "DykeFarmsLaw" pc lv st0 V S :=
  j_callV M hd hst (cl := 0) (by decide) (rfl) (T := T_D) (N := 18) (ci := 0) rfl (g_use (List.mem_of_getElem? (i := 347) (by decide +kernel)) rfl) (g_use (List.mem_of_getElem? (i := 348) (by decide +kernel)) rfl) (g_use (List.mem_of_getElem? (i := 349) (by decide +kernel)) rfl) (g_use (List.mem_of_getElem? (i := 52) (by decide +kernel)) rfl) mc_D_needs ⟨by decide +kernel, by decide +kernel, by rw [hlen]; decide +kernel⟩ ⟨hF.1.1, by have := hF.1.2; omega⟩ hF.2 hcat kk
theorem cl_L_87 (M : g_C G X.1 y_M_needs b_M_needs 2 (some .int) d2 (.ref (g_a G 201) :: As) V S post2) (hd : decode cc pc = .ok (.invokevirtual 87, 3)) (hst : st0 = As.reverse ++ .ref (g_a G 201) :: st) (hlen : As.length = 1) (hF : g_ft X d2) (hcat : (st.map fun v => v.category).sum ≤ 8) (kk : ∀ (v : Option Value) (V' : g_V) (S' : g_L), post2 v V' S' → JW G X cc "DykeFarmsLaw" (pc + 3) lv (v.toList ++ st) V' S') : JW G X cc "DykeFarmsLaw" pc lv st0 V S :=
  j_callV M hd hst (cl := 201) (by decide) (rfl) (T := T_M) (N := 24) (ci := 3) rfl (g_use (List.mem_of_getElem? (i := 684) (by decide +kernel)) rfl) (g_use (List.mem_of_getElem? (i := 685) (by decide +kernel)) rfl) (g_use (List.mem_of_getElem? (i := 686) (by decide +kernel)) rfl) (g_use (List.mem_of_getElem? (i := 55) (by decide +kernel)) rfl) mc_M_needs ⟨by decide +kernel, by decide +kernel, by rw [hlen]; decide +kernel⟩ ⟨hF.1.1, by have := hF.1.2; omega⟩ hF.2 hcat kk
theorem cl_L_88 (M : g_C G X.1 y_D_placing b_D_placing 5 (some .int) d2 (.ref (g_a G 0) :: As) V S post2) (hd : decode cc pc = .ok (.invokevirtual 88, 3)) (hst : st0 = As.reverse ++ .ref (g_a G 0) :: st) (hlen : As.length = 3) (hF : g_ft X d2) (hcat : (st.map fun v => v.category).sum ≤ 8) (kk : ∀ (v : Option Value) (V' : g_V) (S' : g_L), post2 v V' S' → JW G X cc "DykeFarmsLaw" (pc + 3) lv (v.toList ++ st) V' S') : JW G X cc "DykeFarmsLaw" pc lv st0 V S :=
  j_callV M hd hst (cl := 0) (by decide) (rfl) (T := T_D) (N := 18) (ci := 0) rfl (g_use (List.mem_of_getElem? (i := 355) (by decide +kernel)) rfl) (g_use (List.mem_of_getElem? (i := 356) (by decide +kernel)) rfl) (g_use (List.mem_of_getElem? (i := 357) (by decide +kernel)) rfl) (g_use (List.mem_of_getElem? (i := 52) (by decide +kernel)) rfl) mc_D_placing ⟨by decide +kernel, by decide +kernel, by rw [hlen]; decide +kernel⟩ ⟨hF.1.1, by have := hF.1.2; omega⟩ hF.2 hcat kk
theorem cl_L_92 (M : g_C G X.1 y_M_placing b_M_placing 4 (some .int) d2 (.ref (g_a G 201) :: As) V S post2) (hd : decode cc pc = .ok (.invokevirtual 92, 3)) (hst : st0 = As.reverse ++ .ref (g_a G 201) :: st) (hlen : As.length = 3) (hF : g_ft X d2) (hcat : (st.map fun v => v.category).sum ≤ 8) (kk : ∀ (v : Option Value) (V' : g_V) (S' : g_L), post2 v V' S' → JW G X cc "DykeFarmsLaw" (pc + 3) lv (v.toList ++ st) V' S') : JW G X cc "DykeFarmsLaw" pc lv st0 V S :=
  j_callV M hd hst (cl := 201) (by decide) (rfl) (T := T_M) (N := 24) (ci := 3) rfl (g_use (List.mem_of_getElem? (i := 692) (by decide +kernel)) rfl) (g_use (List.mem_of_getElem? (i := 693) (by decide +kernel)) rfl) (g_use (List.mem_of_getElem? (i := 694) (by decide +kernel)) rfl) (g_use (List.mem_of_getElem? (i := 55) (by decide +kernel)) rfl) mc_M_placing ⟨by decide +kernel, by decide +kernel, by rw [hlen]; decide +kernel⟩ ⟨hF.1.1, by have := hF.1.2; omega⟩ hF.2 hcat kk
theorem cl_L_93 (M : g_C G X.1 y_D_all b_D_all 5 (some .int) d2 (.ref (g_a G 0) :: As) V S post2) (hd : decode cc pc = .ok (.invokevirtual 93, 3)) (hst : st0 = As.reverse ++ .ref (g_a G 0) :: st) (hlen : As.length = 0) (hF : g_ft X d2) (hcat : (st.map fun v => v.category).sum ≤ 8) (kk : ∀ (v : Option Value) (V' : g_V) (S' : g_L), post2 v V' S' → JW G X cc "DykeFarmsLaw" (pc + 3) lv (v.toList ++ st) V' S') : JW G X cc "DykeFarmsLaw" pc lv st0 V S :=
  j_callV M hd hst (cl := 0) (by decide) (rfl) (T := T_D) (N := 18) (ci := 0) rfl (g_use (List.mem_of_getElem? (i := 372) (by decide +kernel)) rfl) (g_use (List.mem_of_getElem? (i := 373) (by decide +kernel)) rfl) (g_use (List.mem_of_getElem? (i := 374) (by decide +kernel)) rfl) (g_use (List.mem_of_getElem? (i := 52) (by decide +kernel)) rfl) mc_D_all ⟨by decide +kernel, by decide +kernel, by rw [hlen]; decide +kernel⟩ ⟨hF.1.1, by have := hF.1.2; omega⟩ hF.2 hcat kk
theorem cl_L_96 (M : g_C G X.1 y_M_all b_M_all 5 (some .int) d2 (.ref (g_a G 201) :: As) V S post2) (hd : decode cc pc = .ok (.invokevirtual 96, 3)) (hst : st0 = As.reverse ++ .ref (g_a G 201) :: st) (hlen : As.length = 0) (hF : g_ft X d2) (hcat : (st.map fun v => v.category).sum ≤ 8) (kk : ∀ (v : Option Value) (V' : g_V) (S' : g_L), post2 v V' S' → JW G X cc "DykeFarmsLaw" (pc + 3) lv (v.toList ++ st) V' S') : JW G X cc "DykeFarmsLaw" pc lv st0 V S :=
  j_callV M hd hst (cl := 201) (by decide) (rfl) (T := T_M) (N := 24) (ci := 3) rfl (g_use (List.mem_of_getElem? (i := 701) (by decide +kernel)) rfl) (g_use (List.mem_of_getElem? (i := 702) (by decide +kernel)) rfl) (g_use (List.mem_of_getElem? (i := 703) (by decide +kernel)) rfl) (g_use (List.mem_of_getElem? (i := 55) (by decide +kernel)) rfl) mc_M_all ⟨by decide +kernel, by decide +kernel, by rw [hlen]; decide +kernel⟩ ⟨hF.1.1, by have := hF.1.2; omega⟩ hF.2 hcat kk
theorem cl_L_99 (M : g_C G X.1 y_D_told b_D_told 10 (some .int) d2 (.ref (g_a G 0) :: As) V S post2) (hd : decode cc pc = .ok (.invokevirtual 99, 3)) (hst : st0 = As.reverse ++ .ref (g_a G 0) :: st) (hlen : As.length = 4) (hF : g_ft X d2) (hcat : (st.map fun v => v.category).sum ≤ 8) (kk : ∀ (v : Option Value) (V' : g_V) (S' : g_L), post2 v V' S' → JW G X cc "DykeFarmsLaw" (pc + 3) lv (v.toList ++ st) V' S') : JW G X cc "DykeFarmsLaw" pc lv st0 V S :=
  j_callV M hd hst (cl := 0) (by decide) (rfl) (T := T_D) (N := 18) (ci := 0) rfl (g_use (List.mem_of_getElem? (i := 376) (by decide +kernel)) rfl) (g_use (List.mem_of_getElem? (i := 377) (by decide +kernel)) rfl) (g_use (List.mem_of_getElem? (i := 378) (by decide +kernel)) rfl) (g_use (List.mem_of_getElem? (i := 52) (by decide +kernel)) rfl) mc_D_told ⟨by decide +kernel, by decide +kernel, by rw [hlen]; decide +kernel⟩ ⟨hF.1.1, by have := hF.1.2; omega⟩ hF.2 hcat kk
theorem cl_M_101 (M : g_C G X.1 y_M_strength b_M_strength 4 (some .int) d2 (.ref (g_a G 201) :: As) V S post2) (hd : decode cc pc = .ok (.invokevirtual 101, 3)) (hst : st0 = As.reverse ++ .ref (g_a G 201) :: st) (hlen : As.length = 2) (hF : g_ft X d2) (hcat : (st.map fun v => v.category).sum ≤ 8) (kk : ∀ (v : Option Value) (V' : g_V) (S' : g_L), post2 v V' S' → JW G X cc R_M (pc + 3) lv (v.toList ++ st) V' S') : JW G X cc R_M pc lv st0 V S :=
  j_callV M hd hst (cl := 201) (by decide) (rfl) (T := T_M) (N := 24) (ci := 3) rfl (g_use (List.mem_of_getElem? (i := 612) (by decide +kernel)) rfl) (g_use (List.mem_of_getElem? (i := 614) (by decide +kernel)) rfl) (g_use (List.mem_of_getElem? (i := 38) (by decide +kernel)) rfl) (g_use (List.mem_of_getElem? (i := 55) (by decide +kernel)) rfl) mc_M_strength ⟨by decide +kernel, by decide +kernel, by rw [hlen]; decide +kernel⟩ ⟨hF.1.1, by have := hF.1.2; omega⟩ hF.2 hcat kk
theorem cl_M_105 (M : g_C G X.1 y_M_breaksBy b_M_breaksBy 5 (some .int) d2 (.ref (g_a G 201) :: As) V S post2) (hd : decode cc pc = .ok (.invokevirtual 105, 3)) (hst : st0 = As.reverse ++ .ref (g_a G 201) :: st) (hlen : As.length = 2) (hF : g_ft X d2) (hcat : (st.map fun v => v.category).sum ≤ 8) (kk : ∀ (v : Option Value) (V' : g_V) (S' : g_L), post2 v V' S' → JW G X cc R_M (pc + 3) lv (v.toList ++ st) V' S') : JW G X cc R_M pc lv st0 V S :=
  j_callV M hd hst (cl := 201) (by decide) (rfl) (T := T_M) (N := 24) (ci := 3) rfl (g_use (List.mem_of_getElem? (i := 636) (by decide +kernel)) rfl) (g_use (List.mem_of_getElem? (i := 638) (by decide +kernel)) rfl) (g_use (List.mem_of_getElem? (i := 41) (by decide +kernel)) rfl) (g_use (List.mem_of_getElem? (i := 55) (by decide +kernel)) rfl) mc_M_breaksBy ⟨by decide +kernel, by decide +kernel, by rw [hlen]; decide +kernel⟩ ⟨hF.1.1, by have := hF.1.2; omega⟩ hF.2 hcat kk
theorem cl_M_108 (M : g_C G X.1 y_M_everyone b_M_everyone 1 (some .int) d2 (.ref (g_a G 201) :: As) V S post2) (hd : decode cc pc = .ok (.invokevirtual 108, 3)) (hst : st0 = As.reverse ++ .ref (g_a G 201) :: st) (hlen : As.length = 0) (hF : g_ft X d2) (hcat : (st.map fun v => v.category).sum ≤ 8) (kk : ∀ (v : Option Value) (V' : g_V) (S' : g_L), post2 v V' S' → JW G X cc R_M (pc + 3) lv (v.toList ++ st) V' S') : JW G X cc R_M pc lv st0 V S :=
  j_callV M hd hst (cl := 201) (by decide) (rfl) (T := T_M) (N := 24) (ci := 3) rfl (g_use (List.mem_of_getElem? (i := 596) (by decide +kernel)) rfl) (g_use (List.mem_of_getElem? (i := 598) (by decide +kernel)) rfl) (g_use (List.mem_of_getElem? (i := 35) (by decide +kernel)) rfl) (g_use (List.mem_of_getElem? (i := 55) (by decide +kernel)) rfl) mc_M_everyone ⟨by decide +kernel, by decide +kernel, by rw [hlen]; decide +kernel⟩ ⟨hF.1.1, by have := hF.1.2; omega⟩ hF.2 hcat kk
theorem cl_M_111 (M : g_C G X.1 y_M_clayOf b_M_clayOf 4 (some .int) d2 (.ref (g_a G 201) :: As) V S post2) (hd : decode cc pc = .ok (.invokevirtual 111, 3)) (hst : st0 = As.reverse ++ .ref (g_a G 201) :: st) (hlen : As.length = 1) (hF : g_ft X d2) (hcat : (st.map fun v => v.category).sum ≤ 8) (kk : ∀ (v : Option Value) (V' : g_V) (S' : g_L), post2 v V' S' → JW G X cc R_M (pc + 3) lv (v.toList ++ st) V' S') : JW G X cc R_M pc lv st0 V S :=
  j_callV M hd hst (cl := 201) (by decide) (rfl) (T := T_M) (N := 24) (ci := 3) rfl (g_use (List.mem_of_getElem? (i := 600) (by decide +kernel)) rfl) (g_use (List.mem_of_getElem? (i := 602) (by decide +kernel)) rfl) (g_use (List.mem_of_getElem? (i := 36) (by decide +kernel)) rfl) (g_use (List.mem_of_getElem? (i := 55) (by decide +kernel)) rfl) mc_M_clayOf ⟨by decide +kernel, by decide +kernel, by rw [hlen]; decide +kernel⟩ ⟨hF.1.1, by have := hF.1.2; omega⟩ hF.2 hcat kk
theorem cl_M_115 (M : g_C G X.1 y_M_noFarm b_M_noFarm 2 (some .boolean) d2 (.ref (g_a G 201) :: As) V S post2) (hd : decode cc pc = .ok (.invokevirtual 115, 3)) (hst : st0 = As.reverse ++ .ref (g_a G 201) :: st) (hlen : As.length = 1) (hF : g_ft X d2) (hcat : (st.map fun v => v.category).sum ≤ 8) (kk : ∀ (v : Option Value) (V' : g_V) (S' : g_L), post2 v V' S' → JW G X cc R_M (pc + 3) lv (v.toList ++ st) V' S') : JW G X cc R_M pc lv st0 V S :=
  j_callV M hd hst (cl := 201) (by decide) (rfl) (T := T_M) (N := 24) (ci := 3) rfl (g_use (List.mem_of_getElem? (i := 608) (by decide +kernel)) rfl) (g_use (List.mem_of_getElem? (i := 610) (by decide +kernel)) rfl) (g_use (List.mem_of_getElem? (i := 37) (by decide +kernel)) rfl) (g_use (List.mem_of_getElem? (i := 55) (by decide +kernel)) rfl) mc_M_noFarm ⟨by decide +kernel, by decide +kernel, by rw [hlen]; decide +kernel⟩ ⟨hF.1.1, by have := hF.1.2; omega⟩ hF.2 hcat kk
theorem cl_M_119 (M : g_C G X.1 y_M_noStorm b_M_noStorm 1 (some .boolean) d2 As V S post2) (hd : decode cc pc = .ok (.invokestatic 119, 3)) (hst : st0 = As.reverse ++ st) (hlen : As.length = 1) (hF : g_ft X d2) (hcat : (st.map fun v => v.category).sum ≤ 8) (kk : ∀ (v : Option Value) (V' : g_V) (S' : g_L), post2 v V' S' → JW G X cc R_M (pc + 3) lv (v.toList ++ st) V' S') : JW G X cc R_M pc lv st0 V S :=
  j_callS M hd hst (g_use (List.mem_of_getElem? (i := 624) (by decide +kernel)) rfl) (g_use (List.mem_of_getElem? (i := 625) (by decide +kernel)) rfl) (g_use (List.mem_of_getElem? (i := 55) (by decide +kernel)) rfl) mc_M_noStorm ⟨by decide +kernel, by decide +kernel, by rw [hlen]; decide +kernel⟩ ⟨hF.1.1, by have := hF.1.2; omega⟩ hF.2 hcat kk
theorem cl_M_122 (M : g_C G X.1 y_M_note b_M_note 2 none d2 (.ref (g_a G 201) :: As) V S post2) (hd : decode cc pc = .ok (.invokevirtual 122, 3)) (hst : st0 = As.reverse ++ .ref (g_a G 201) :: st) (hlen : As.length = 0) (hF : g_ft X d2) (hcat : (st.map fun v => v.category).sum ≤ 8) (kk : ∀ (v : Option Value) (V' : g_V) (S' : g_L), post2 v V' S' → JW G X cc R_M (pc + 3) lv (v.toList ++ st) V' S') : JW G X cc R_M pc lv st0 V S :=
  j_callV M hd hst (cl := 201) (by decide) (rfl) (T := T_M) (N := 24) (ci := 3) rfl (g_use (List.mem_of_getElem? (i := 628) (by decide +kernel)) rfl) (g_use (List.mem_of_getElem? (i := 630) (by decide +kernel)) rfl) (g_use (List.mem_of_getElem? (i := 39) (by decide +kernel)) rfl) (g_use (List.mem_of_getElem? (i := 55) (by decide +kernel)) rfl) mc_M_note ⟨by decide +kernel, by decide +kernel, by rw [hlen]; decide +kernel⟩ ⟨hF.1.1, by have := hF.1.2; omega⟩ hF.2 hcat kk
theorem cl_M_125 (M : g_C G X.1 y_M_goStorm b_M_goStorm 5 (some .int) d2 (.ref (g_a G 201) :: As) V S post2) (hd : decode cc pc = .ok (.invokevirtual 125, 3)) (hst : st0 = As.reverse ++ .ref (g_a G 201) :: st) (hlen : As.length = 2) (hF : g_ft X d2) (hcat : (st.map fun v => v.category).sum ≤ 8) (kk : ∀ (v : Option Value) (V' : g_V) (S' : g_L), post2 v V' S' → JW G X cc R_M (pc + 3) lv (v.toList ++ st) V' S') : JW G X cc R_M pc lv st0 V S :=
  j_callV M hd hst (cl := 201) (by decide) (rfl) (T := T_M) (N := 24) (ci := 3) rfl (g_use (List.mem_of_getElem? (i := 632) (by decide +kernel)) rfl) (g_use (List.mem_of_getElem? (i := 634) (by decide +kernel)) rfl) (g_use (List.mem_of_getElem? (i := 40) (by decide +kernel)) rfl) (g_use (List.mem_of_getElem? (i := 55) (by decide +kernel)) rfl) mc_M_goStorm ⟨by decide +kernel, by decide +kernel, by rw [hlen]; decide +kernel⟩ ⟨hF.1.1, by have := hF.1.2; omega⟩ hF.2 hcat kk
theorem cl_M_128 (M : g_C G X.1 y_M_drownsBy b_M_drownsBy 5 (some .int) d2 (.ref (g_a G 201) :: As) V S post2) (hd : decode cc pc = .ok (.invokevirtual 128, 3)) (hst : st0 = As.reverse ++ .ref (g_a G 201) :: st) (hlen : As.length = 2) (hF : g_ft X d2) (hcat : (st.map fun v => v.category).sum ≤ 8) (kk : ∀ (v : Option Value) (V' : g_V) (S' : g_L), post2 v V' S' → JW G X cc R_M (pc + 3) lv (v.toList ++ st) V' S') : JW G X cc R_M pc lv st0 V S :=
  j_callV M hd hst (cl := 201) (by decide) (rfl) (T := T_M) (N := 24) (ci := 3) rfl (g_use (List.mem_of_getElem? (i := 640) (by decide +kernel)) rfl) (g_use (List.mem_of_getElem? (i := 642) (by decide +kernel)) rfl) (g_use (List.mem_of_getElem? (i := 42) (by decide +kernel)) rfl) (g_use (List.mem_of_getElem? (i := 55) (by decide +kernel)) rfl) mc_M_drownsBy ⟨by decide +kernel, by decide +kernel, by rw [hlen]; decide +kernel⟩ ⟨hF.1.1, by have := hF.1.2; omega⟩ hF.2 hcat kk
theorem cl_M_131 (M : g_C G X.1 y_M_worthOf b_M_worthOf 4 (some .int) d2 (.ref (g_a G 201) :: As) V S post2) (hd : decode cc pc = .ok (.invokevirtual 131, 3)) (hst : st0 = As.reverse ++ .ref (g_a G 201) :: st) (hlen : As.length = 1) (hF : g_ft X d2) (hcat : (st.map fun v => v.category).sum ≤ 8) (kk : ∀ (v : Option Value) (V' : g_V) (S' : g_L), post2 v V' S' → JW G X cc R_M (pc + 3) lv (v.toList ++ st) V' S') : JW G X cc R_M pc lv st0 V S :=
  j_callV M hd hst (cl := 201) (by decide) (rfl) (T := T_M) (N := 24) (ci := 3) rfl (g_use (List.mem_of_getElem? (i := 644) (by decide +kernel)) rfl) (g_use (List.mem_of_getElem? (i := 646) (by decide +kernel)) rfl) (g_use (List.mem_of_getElem? (i := 43) (by decide +kernel)) rfl) (g_use (List.mem_of_getElem? (i := 55) (by decide +kernel)) rfl) mc_M_worthOf ⟨by decide +kernel, by decide +kernel, by rw [hlen]; decide +kernel⟩ ⟨hF.1.1, by have := hF.1.2; omega⟩ hF.2 hcat kk
theorem cl_M_134 (M : g_C G X.1 y_M_clayFor b_M_clayFor 6 (some .int) d2 (.ref (g_a G 201) :: As) V S post2) (hd : decode cc pc = .ok (.invokevirtual 134, 3)) (hst : st0 = As.reverse ++ .ref (g_a G 201) :: st) (hlen : As.length = 2) (hF : g_ft X d2) (hcat : (st.map fun v => v.category).sum ≤ 8) (kk : ∀ (v : Option Value) (V' : g_V) (S' : g_L), post2 v V' S' → JW G X cc R_M (pc + 3) lv (v.toList ++ st) V' S') : JW G X cc R_M pc lv st0 V S :=
  j_callV M hd hst (cl := 201) (by decide) (rfl) (T := T_M) (N := 24) (ci := 3) rfl (g_use (List.mem_of_getElem? (i := 688) (by decide +kernel)) rfl) (g_use (List.mem_of_getElem? (i := 690) (by decide +kernel)) rfl) (g_use (List.mem_of_getElem? (i := 44) (by decide +kernel)) rfl) (g_use (List.mem_of_getElem? (i := 55) (by decide +kernel)) rfl) mc_M_clayFor ⟨by decide +kernel, by decide +kernel, by rw [hlen]; decide +kernel⟩ ⟨hF.1.1, by have := hF.1.2; omega⟩ hF.2 hcat kk
theorem cl_M_145 (M : g_C G X.1 y_M_findPlacing b_M_findPlacing 10 none d2 (.ref (g_a G 201) :: As) V S post2) (hd : decode cc pc = .ok (.invokevirtual 145, 3)) (hst : st0 = As.reverse ++ .ref (g_a G 201) :: st) (hlen : As.length = 2) (hF : g_ft X d2) (hcat : (st.map fun v => v.category).sum ≤ 8) (kk : ∀ (v : Option Value) (V' : g_V) (S' : g_L), post2 v V' S' → JW G X cc R_M (pc + 3) lv (v.toList ++ st) V' S') : JW G X cc R_M pc lv st0 V S :=
  j_callV M hd hst (cl := 201) (by decide) (rfl) (T := T_M) (N := 24) (ci := 3) rfl (g_use (List.mem_of_getElem? (i := 697) (by decide +kernel)) rfl) (g_use (List.mem_of_getElem? (i := 699) (by decide +kernel)) rfl) (g_use (List.mem_of_getElem? (i := 45) (by decide +kernel)) rfl) (g_use (List.mem_of_getElem? (i := 55) (by decide +kernel)) rfl) mc_M_findPlacing ⟨by decide +kernel, by decide +kernel, by rw [hlen]; decide +kernel⟩ ⟨hF.1.1, by have := hF.1.2; omega⟩ hF.2 hcat kk
theorem cl_M_151 (M : g_C G X.1 y_M_hundred b_M_hundred 4 (some .long) d2 As V S post2) (hd : decode cc pc = .ok (.invokestatic 151, 3)) (hst : st0 = As.reverse ++ st) (hlen : As.length = 1) (hF : g_ft X d2) (hcat : (st.map fun v => v.category).sum ≤ 8) (kk : ∀ (v : Option Value) (V' : g_V) (S' : g_L), post2 v V' S' → JW G X cc R_M (pc + 3) lv (v.toList ++ st) V' S') : JW G X cc R_M pc lv st0 V S :=
  j_callS M hd hst (g_use (List.mem_of_getElem? (i := 713) (by decide +kernel)) rfl) (g_use (List.mem_of_getElem? (i := 714) (by decide +kernel)) rfl) (g_use (List.mem_of_getElem? (i := 55) (by decide +kernel)) rfl) mc_M_hundred ⟨by decide +kernel, by decide +kernel, by rw [hlen]; decide +kernel⟩ ⟨hF.1.1, by have := hF.1.2; omega⟩ hF.2 hcat kk
theorem cl_M_157 (M : g_C G X.1 y_M_stormOf b_M_stormOf 4 (some .int) d2 As V S post2) (hd : decode cc pc = .ok (.invokestatic 157, 3)) (hst : st0 = As.reverse ++ st) (hlen : As.length = 3) (hF : g_ft X d2) (hcat : (st.map fun v => v.category).sum ≤ 8) (kk : ∀ (v : Option Value) (V' : g_V) (S' : g_L), post2 v V' S' → JW G X cc R_M (pc + 3) lv (v.toList ++ st) V' S') : JW G X cc R_M pc lv st0 V S :=
  j_callS M hd hst (g_use (List.mem_of_getElem? (i := 717) (by decide +kernel)) rfl) (g_use (List.mem_of_getElem? (i := 718) (by decide +kernel)) rfl) (g_use (List.mem_of_getElem? (i := 55) (by decide +kernel)) rfl) mc_M_stormOf ⟨by decide +kernel, by decide +kernel, by rw [hlen]; decide +kernel⟩ ⟨hF.1.1, by have := hF.1.2; omega⟩ hF.2 hcat kk
theorem cl_M_161 (M : g_C G X.1 y_M_noStorms b_M_noStorms 5 (some .boolean) d2 As V S post2) (hd : decode cc pc = .ok (.invokestatic 161, 3)) (hst : st0 = As.reverse ++ st) (hlen : As.length = 2) (hF : g_ft X d2) (hcat : (st.map fun v => v.category).sum ≤ 8) (kk : ∀ (v : Option Value) (V' : g_V) (S' : g_L), post2 v V' S' → JW G X cc R_M (pc + 3) lv (v.toList ++ st) V' S') : JW G X cc R_M pc lv st0 V S :=
  j_callS M hd hst (g_use (List.mem_of_getElem? (i := 709) (by decide +kernel)) rfl) (g_use (List.mem_of_getElem? (i := 710) (by decide +kernel)) rfl) (g_use (List.mem_of_getElem? (i := 55) (by decide +kernel)) rfl) mc_M_noStorms ⟨by decide +kernel, by decide +kernel, by rw [hlen]; decide +kernel⟩ ⟨hF.1.1, by have := hF.1.2; omega⟩ hF.2 hcat kk
theorem cl_M_167 (M : g_C G X.1 y_M_begin b_M_begin 2 none d2 (.ref (g_a G 201) :: As) V S post2) (hd : decode cc pc = .ok (.invokevirtual 167, 3)) (hst : st0 = As.reverse ++ .ref (g_a G 201) :: st) (hlen : As.length = 0) (hF : g_ft X d2) (hcat : (st.map fun v => v.category).sum ≤ 8) (kk : ∀ (v : Option Value) (V' : g_V) (S' : g_L), post2 v V' S' → JW G X cc R_M (pc + 3) lv (v.toList ++ st) V' S') : JW G X cc R_M pc lv st0 V S :=
  j_callV M hd hst (cl := 201) (by decide) (rfl) (T := T_M) (N := 24) (ci := 3) rfl (g_use (List.mem_of_getElem? (i := 721) (by decide +kernel)) rfl) (g_use (List.mem_of_getElem? (i := 723) (by decide +kernel)) rfl) (g_use (List.mem_of_getElem? (i := 46) (by decide +kernel)) rfl) (g_use (List.mem_of_getElem? (i := 55) (by decide +kernel)) rfl) mc_M_begin ⟨by decide +kernel, by decide +kernel, by rw [hlen]; decide +kernel⟩ ⟨hF.1.1, by have := hF.1.2; omega⟩ hF.2 hcat kk
theorem cl_M_170 (M : g_C G X.1 y_M_netOf b_M_netOf 4 (some .int) d2 (.ref (g_a G 201) :: As) V S post2) (hd : decode cc pc = .ok (.invokevirtual 170, 3)) (hst : st0 = As.reverse ++ .ref (g_a G 201) :: st) (hlen : As.length = 1) (hF : g_ft X d2) (hcat : (st.map fun v => v.category).sum ≤ 8) (kk : ∀ (v : Option Value) (V' : g_V) (S' : g_L), post2 v V' S' → JW G X cc R_M (pc + 3) lv (v.toList ++ st) V' S') : JW G X cc R_M pc lv st0 V S :=
  j_callV M hd hst (cl := 201) (by decide) (rfl) (T := T_M) (N := 24) (ci := 3) rfl (g_use (List.mem_of_getElem? (i := 733) (by decide +kernel)) rfl) (g_use (List.mem_of_getElem? (i := 735) (by decide +kernel)) rfl) (g_use (List.mem_of_getElem? (i := 47) (by decide +kernel)) rfl) (g_use (List.mem_of_getElem? (i := 55) (by decide +kernel)) rfl) mc_M_netOf ⟨by decide +kernel, by decide +kernel, by rw [hlen]; decide +kernel⟩ ⟨hF.1.1, by have := hF.1.2; omega⟩ hF.2 hcat kk
theorem cl_M_173 (M : g_C G X.1 y_M_sumOf b_M_sumOf 4 (some .int) d2 (.ref (g_a G 201) :: As) V S post2) (hd : decode cc pc = .ok (.invokevirtual 173, 3)) (hst : st0 = As.reverse ++ .ref (g_a G 201) :: st) (hlen : As.length = 1) (hF : g_ft X d2) (hcat : (st.map fun v => v.category).sum ≤ 8) (kk : ∀ (v : Option Value) (V' : g_V) (S' : g_L), post2 v V' S' → JW G X cc R_M (pc + 3) lv (v.toList ++ st) V' S') : JW G X cc R_M pc lv st0 V S :=
  j_callV M hd hst (cl := 201) (by decide) (rfl) (T := T_M) (N := 24) (ci := 3) rfl (g_use (List.mem_of_getElem? (i := 741) (by decide +kernel)) rfl) (g_use (List.mem_of_getElem? (i := 743) (by decide +kernel)) rfl) (g_use (List.mem_of_getElem? (i := 48) (by decide +kernel)) rfl) (g_use (List.mem_of_getElem? (i := 55) (by decide +kernel)) rfl) mc_M_sumOf ⟨by decide +kernel, by decide +kernel, by rw [hlen]; decide +kernel⟩ ⟨hF.1.1, by have := hF.1.2; omega⟩ hF.2 hcat kk
theorem cl_M_176 (M : g_C G X.1 y_M_many b_M_many 3 (some .int) d2 As V S post2) (hd : decode cc pc = .ok (.invokestatic 176, 3)) (hst : st0 = As.reverse ++ st) (hlen : As.length = 1) (hF : g_ft X d2) (hcat : (st.map fun v => v.category).sum ≤ 8) (kk : ∀ (v : Option Value) (V' : g_V) (S' : g_L), post2 v V' S' → JW G X cc R_M (pc + 3) lv (v.toList ++ st) V' S') : JW G X cc R_M pc lv st0 V S :=
  j_callS M hd hst (g_use (List.mem_of_getElem? (i := 745) (by decide +kernel)) rfl) (g_use (List.mem_of_getElem? (i := 746) (by decide +kernel)) rfl) (g_use (List.mem_of_getElem? (i := 55) (by decide +kernel)) rfl) mc_M_many ⟨by decide +kernel, by decide +kernel, by rw [hlen]; decide +kernel⟩ ⟨hF.1.1, by have := hF.1.2; omega⟩ hF.2 hcat kk
theorem cl_M_179 (M : g_C G X.1 y_M_divisor b_M_divisor 5 (some .int) d2 As V S post2) (hd : decode cc pc = .ok (.invokestatic 179, 3)) (hst : st0 = As.reverse ++ st) (hlen : As.length = 2) (hF : g_ft X d2) (hcat : (st.map fun v => v.category).sum ≤ 8) (kk : ∀ (v : Option Value) (V' : g_V) (S' : g_L), post2 v V' S' → JW G X cc R_M (pc + 3) lv (v.toList ++ st) V' S') : JW G X cc R_M pc lv st0 V S :=
  j_callS M hd hst (g_use (List.mem_of_getElem? (i := 758) (by decide +kernel)) rfl) (g_use (List.mem_of_getElem? (i := 759) (by decide +kernel)) rfl) (g_use (List.mem_of_getElem? (i := 55) (by decide +kernel)) rfl) mc_M_divisor ⟨by decide +kernel, by decide +kernel, by rw [hlen]; decide +kernel⟩ ⟨hF.1.1, by have := hF.1.2; omega⟩ hF.2 hcat kk
theorem cl_M_182 (M : g_C G X.1 y_M_orders b_M_orders 3 (some .int) d2 As V S post2) (hd : decode cc pc = .ok (.invokestatic 182, 3)) (hst : st0 = As.reverse ++ st) (hlen : As.length = 1) (hF : g_ft X d2) (hcat : (st.map fun v => v.category).sum ≤ 8) (kk : ∀ (v : Option Value) (V' : g_V) (S' : g_L), post2 v V' S' → JW G X cc R_M (pc + 3) lv (v.toList ++ st) V' S') : JW G X cc R_M pc lv st0 V S :=
  j_callS M hd hst (g_use (List.mem_of_getElem? (i := 752) (by decide +kernel)) rfl) (g_use (List.mem_of_getElem? (i := 753) (by decide +kernel)) rfl) (g_use (List.mem_of_getElem? (i := 55) (by decide +kernel)) rfl) mc_M_orders ⟨by decide +kernel, by decide +kernel, by rw [hlen]; decide +kernel⟩ ⟨hF.1.1, by have := hF.1.2; omega⟩ hF.2 hcat kk
theorem cl_M_185 (M : g_C G X.1 y_M_fraction b_M_fraction 4 (some .int) d2 As V S post2) (hd : decode cc pc = .ok (.invokestatic 185, 3)) (hst : st0 = As.reverse ++ st) (hlen : As.length = 3) (hF : g_ft X d2) (hcat : (st.map fun v => v.category).sum ≤ 8) (kk : ∀ (v : Option Value) (V' : g_V) (S' : g_L), post2 v V' S' → JW G X cc R_M (pc + 3) lv (v.toList ++ st) V' S') : JW G X cc R_M pc lv st0 V S :=
  j_callS M hd hst (g_use (List.mem_of_getElem? (i := 755) (by decide +kernel)) rfl) (g_use (List.mem_of_getElem? (i := 756) (by decide +kernel)) rfl) (g_use (List.mem_of_getElem? (i := 55) (by decide +kernel)) rfl) mc_M_fraction ⟨by decide +kernel, by decide +kernel, by rw [hlen]; decide +kernel⟩ ⟨hF.1.1, by have := hF.1.2; omega⟩ hF.2 hcat kk
theorem cl_M_195 (M : g_C G X.1 y_M_gainOf b_M_gainOf 7 (some .int) d2 (.ref (g_a G 201) :: As) V S post2) (hd : decode cc pc = .ok (.invokevirtual 195, 3)) (hst : st0 = As.reverse ++ .ref (g_a G 201) :: st) (hlen : As.length = 5) (hF : g_ft X d2) (hcat : (st.map fun v => v.category).sum ≤ 8) (kk : ∀ (v : Option Value) (V' : g_V) (S' : g_L), post2 v V' S' → JW G X cc R_M (pc + 3) lv (v.toList ++ st) V' S') : JW G X cc R_M pc lv st0 V S :=
  j_callV M hd hst (cl := 201) (by decide) (rfl) (T := T_M) (N := 24) (ci := 3) rfl (g_use (List.mem_of_getElem? (i := 769) (by decide +kernel)) rfl) (g_use (List.mem_of_getElem? (i := 771) (by decide +kernel)) rfl) (g_use (List.mem_of_getElem? (i := 50) (by decide +kernel)) rfl) (g_use (List.mem_of_getElem? (i := 55) (by decide +kernel)) rfl) mc_M_gainOf ⟨by decide +kernel, by decide +kernel, by rw [hlen]; decide +kernel⟩ ⟨hF.1.1, by have := hF.1.2; omega⟩ hF.2 hcat kk
theorem cl_M_199 (M : g_C G X.1 y_M_findRests b_M_findRests 11 none d2 (.ref (g_a G 201) :: As) V S post2) (hd : decode cc pc = .ok (.invokevirtual 199, 3)) (hst : st0 = As.reverse ++ .ref (g_a G 201) :: st) (hlen : As.length = 4) (hF : g_ft X d2) (hcat : (st.map fun v => v.category).sum ≤ 8) (kk : ∀ (v : Option Value) (V' : g_V) (S' : g_L), post2 v V' S' → JW G X cc R_M (pc + 3) lv (v.toList ++ st) V' S') : JW G X cc R_M pc lv st0 V S :=
  j_callV M hd hst (cl := 201) (by decide) (rfl) (T := T_M) (N := 24) (ci := 3) rfl (g_use (List.mem_of_getElem? (i := 765) (by decide +kernel)) rfl) (g_use (List.mem_of_getElem? (i := 767) (by decide +kernel)) rfl) (g_use (List.mem_of_getElem? (i := 49) (by decide +kernel)) rfl) (g_use (List.mem_of_getElem? (i := 55) (by decide +kernel)) rfl) mc_M_findRests ⟨by decide +kernel, by decide +kernel, by rw [hlen]; decide +kernel⟩ ⟨hF.1.1, by have := hF.1.2; omega⟩ hF.2 hcat kk
theorem cl_M_54 (M : g_C G X.1 y_M_in b_M_in 6 (some .boolean) d2 As V S post2) (hd : decode cc pc = .ok (.invokestatic 54, 3)) (hst : st0 = As.reverse ++ st) (hlen : As.length = 3) (hF : g_ft X d2) (hcat : (st.map fun v => v.category).sum ≤ 8) (kk : ∀ (v : Option Value) (V' : g_V) (S' : g_L), post2 v V' S' → JW G X cc R_M (pc + 3) lv (v.toList ++ st) V' S') : JW G X cc R_M pc lv st0 V S :=
  j_callS M hd hst (g_use (List.mem_of_getElem? (i := 550) (by decide +kernel)) rfl) (g_use (List.mem_of_getElem? (i := 551) (by decide +kernel)) rfl) (g_use (List.mem_of_getElem? (i := 55) (by decide +kernel)) rfl) mc_M_in ⟨by decide +kernel, by decide +kernel, by rw [hlen]; decide +kernel⟩ ⟨hF.1.1, by have := hF.1.2; omega⟩ hF.2 hcat kk
theorem cl_M_71 (M : g_C G X.1 y_M_figure b_M_figure 3 (some .int) d2 (.ref (g_a G 201) :: As) V S post2) (hd : decode cc pc = .ok (.invokevirtual 71, 3)) (hst : st0 = As.reverse ++ .ref (g_a G 201) :: st) (hlen : As.length = 2) (hF : g_ft X d2) (hcat : (st.map fun v => v.category).sum ≤ 8) (kk : ∀ (v : Option Value) (V' : g_V) (S' : g_L), post2 v V' S' → JW G X cc R_M (pc + 3) lv (v.toList ++ st) V' S') : JW G X cc R_M pc lv st0 V S :=
  j_callV M hd hst (cl := 201) (by decide) (rfl) (T := T_M) (N := 24) (ci := 3) rfl (g_use (List.mem_of_getElem? (i := 573) (by decide +kernel)) rfl) (g_use (List.mem_of_getElem? (i := 575) (by decide +kernel)) rfl) (g_use (List.mem_of_getElem? (i := 32) (by decide +kernel)) rfl) (g_use (List.mem_of_getElem? (i := 55) (by decide +kernel)) rfl) mc_M_figure ⟨by decide +kernel, by decide +kernel, by rw [hlen]; decide +kernel⟩ ⟨hF.1.1, by have := hF.1.2; omega⟩ hF.2 hcat kk
theorem cl_M_78 (M : g_C G X.1 y_M_has b_M_has 2 (some .boolean) d2 As V S post2) (hd : decode cc pc = .ok (.invokestatic 78, 3)) (hst : st0 = As.reverse ++ st) (hlen : As.length = 2) (hF : g_ft X d2) (hcat : (st.map fun v => v.category).sum ≤ 8) (kk : ∀ (v : Option Value) (V' : g_V) (S' : g_L), post2 v V' S' → JW G X cc R_M (pc + 3) lv (v.toList ++ st) V' S') : JW G X cc R_M pc lv st0 V S :=
  j_callS M hd hst (g_use (List.mem_of_getElem? (i := 585) (by decide +kernel)) rfl) (g_use (List.mem_of_getElem? (i := 586) (by decide +kernel)) rfl) (g_use (List.mem_of_getElem? (i := 55) (by decide +kernel)) rfl) mc_M_has ⟨by decide +kernel, by decide +kernel, by rw [hlen]; decide +kernel⟩ ⟨hF.1.1, by have := hF.1.2; omega⟩ hF.2 hcat kk
theorem cl_M_82 (M : g_C G X.1 y_M_readFarm b_M_readFarm 4 (some .boolean) d2 (.ref (g_a G 201) :: As) V S post2) (hd : decode cc pc = .ok (.invokevirtual 82, 3)) (hst : st0 = As.reverse ++ .ref (g_a G 201) :: st) (hlen : As.length = 0) (hF : g_ft X d2) (hcat : (st.map fun v => v.category).sum ≤ 8) (kk : ∀ (v : Option Value) (V' : g_V) (S' : g_L), post2 v V' S' → JW G X cc R_M (pc + 3) lv (v.toList ++ st) V' S') : JW G X cc R_M pc lv st0 V S :=
  j_callV M hd hst (cl := 201) (by decide) (rfl) (T := T_M) (N := 24) (ci := 3) rfl (g_use (List.mem_of_getElem? (i := 569) (by decide +kernel)) rfl) (g_use (List.mem_of_getElem? (i := 571) (by decide +kernel)) rfl) (g_use (List.mem_of_getElem? (i := 31) (by decide +kernel)) rfl) (g_use (List.mem_of_getElem? (i := 55) (by decide +kernel)) rfl) mc_M_readFarm ⟨by decide +kernel, by decide +kernel, by rw [hlen]; decide +kernel⟩ ⟨hF.1.1, by have := hF.1.2; omega⟩ hF.2 hcat kk
theorem cl_M_85 (M : g_C G X.1 y_M_canDam b_M_canDam 1 (some .boolean) d2 (.ref (g_a G 201) :: As) V S post2) (hd : decode cc pc = .ok (.invokevirtual 85, 3)) (hst : st0 = As.reverse ++ .ref (g_a G 201) :: st) (hlen : As.length = 0) (hF : g_ft X d2) (hcat : (st.map fun v => v.category).sum ≤ 8) (kk : ∀ (v : Option Value) (V' : g_V) (S' : g_L), post2 v V' S' → JW G X cc R_M (pc + 3) lv (v.toList ++ st) V' S') : JW G X cc R_M pc lv st0 V S :=
  j_callV M hd hst (cl := 201) (by decide) (rfl) (T := T_M) (N := 24) (ci := 3) rfl (g_use (List.mem_of_getElem? (i := 577) (by decide +kernel)) rfl) (g_use (List.mem_of_getElem? (i := 579) (by decide +kernel)) rfl) (g_use (List.mem_of_getElem? (i := 33) (by decide +kernel)) rfl) (g_use (List.mem_of_getElem? (i := 55) (by decide +kernel)) rfl) mc_M_canDam ⟨by decide +kernel, by decide +kernel, by rw [hlen]; decide +kernel⟩ ⟨hF.1.1, by have := hF.1.2; omega⟩ hF.2 hcat kk
theorem cl_M_88 (M : g_C G X.1 y_M_readDam b_M_readDam 2 (some .boolean) d2 (.ref (g_a G 201) :: As) V S post2) (hd : decode cc pc = .ok (.invokevirtual 88, 3)) (hst : st0 = As.reverse ++ .ref (g_a G 201) :: st) (hlen : As.length = 0) (hF : g_ft X d2) (hcat : (st.map fun v => v.category).sum ≤ 8) (kk : ∀ (v : Option Value) (V' : g_V) (S' : g_L), post2 v V' S' → JW G X cc R_M (pc + 3) lv (v.toList ++ st) V' S') : JW G X cc R_M pc lv st0 V S :=
  j_callV M hd hst (cl := 201) (by decide) (rfl) (T := T_M) (N := 24) (ci := 3) rfl (g_use (List.mem_of_getElem? (i := 581) (by decide +kernel)) rfl) (g_use (List.mem_of_getElem? (i := 583) (by decide +kernel)) rfl) (g_use (List.mem_of_getElem? (i := 34) (by decide +kernel)) rfl) (g_use (List.mem_of_getElem? (i := 55) (by decide +kernel)) rfl) mc_M_readDam ⟨by decide +kernel, by decide +kernel, by rw [hlen]; decide +kernel⟩ ⟨hF.1.1, by have := hF.1.2; omega⟩ hF.2 hcat kk
theorem cl_M_91 (M : g_C G X.1 y_M_readPart b_M_readPart 2 (some .boolean) d2 (.ref (g_a G 201) :: As) V S post2) (hd : decode cc pc = .ok (.invokevirtual 91, 3)) (hst : st0 = As.reverse ++ .ref (g_a G 201) :: st) (hlen : As.length = 0) (hF : g_ft X d2) (hcat : (st.map fun v => v.category).sum ≤ 8) (kk : ∀ (v : Option Value) (V' : g_V) (S' : g_L), post2 v V' S' → JW G X cc R_M (pc + 3) lv (v.toList ++ st) V' S') : JW G X cc R_M pc lv st0 V S :=
  j_callV M hd hst (cl := 201) (by decide) (rfl) (T := T_M) (N := 24) (ci := 3) rfl (g_use (List.mem_of_getElem? (i := 565) (by decide +kernel)) rfl) (g_use (List.mem_of_getElem? (i := 567) (by decide +kernel)) rfl) (g_use (List.mem_of_getElem? (i := 30) (by decide +kernel)) rfl) (g_use (List.mem_of_getElem? (i := 55) (by decide +kernel)) rfl) mc_M_readPart ⟨by decide +kernel, by decide +kernel, by rw [hlen]; decide +kernel⟩ ⟨hF.1.1, by have := hF.1.2; omega⟩ hF.2 hcat kk
theorem cl_M_94 (M : g_C G X.1 y_M_readDyke b_M_readDyke 1 (some .int) d2 (.ref (g_a G 201) :: As) V S post2) (hd : decode cc pc = .ok (.invokevirtual 94, 3)) (hst : st0 = As.reverse ++ .ref (g_a G 201) :: st) (hlen : As.length = 0) (hF : g_ft X d2) (hcat : (st.map fun v => v.category).sum ≤ 8) (kk : ∀ (v : Option Value) (V' : g_V) (S' : g_L), post2 v V' S' → JW G X cc R_M (pc + 3) lv (v.toList ++ st) V' S') : JW G X cc R_M pc lv st0 V S :=
  j_callV M hd hst (cl := 201) (by decide) (rfl) (T := T_M) (N := 24) (ci := 3) rfl (g_use (List.mem_of_getElem? (i := 561) (by decide +kernel)) rfl) (g_use (List.mem_of_getElem? (i := 563) (by decide +kernel)) rfl) (g_use (List.mem_of_getElem? (i := 29) (by decide +kernel)) rfl) (g_use (List.mem_of_getElem? (i := 55) (by decide +kernel)) rfl) mc_M_readDyke ⟨by decide +kernel, by decide +kernel, by rw [hlen]; decide +kernel⟩ ⟨hF.1.1, by have := hF.1.2; omega⟩ hF.2 hcat kk
theorem cl_H_42 (M : g_C G X.1 y_D_copyRow b_D_copyRow 3 none d2 As V S post2) (hd : decode cc pc = .ok (.invokestatic 42, 3)) (hst : st0 = As.reverse ++ st) (hlen : As.length = 2) (hF : g_ft X d2) (hcat : (st.map fun v => v.category).sum ≤ 8) (kk : ∀ (v : Option Value) (V' : g_V) (S' : g_L), post2 v V' S' → JW G X cc R_H (pc + 3) lv (v.toList ++ st) V' S') : JW G X cc R_H pc lv st0 V S :=
  j_callSN (host := "DykeFarms") M hd hst (g_use (List.mem_of_getElem? (i := 285) (by decide +kernel)) rfl) (g_use (List.mem_of_getElem? (i := 286) (by decide +kernel)) rfl) (g_use (List.mem_of_getElem? (i := 52) (by decide +kernel)) rfl) mc_D_copyRow ⟨by decide +kernel, by decide +kernel, by rw [hlen]; decide +kernel⟩ ⟨hF.1.1, by have := hF.1.2; omega⟩ hF.2 hcat kk
theorem cl_S_37 (M : g_C G X.1 y_D_has b_D_has 2 (some .boolean) d2 As V S post2) (hd : decode cc pc = .ok (.invokestatic 37, 3)) (hst : st0 = As.reverse ++ st) (hlen : As.length = 2) (hF : g_ft X d2) (hcat : (st.map fun v => v.category).sum ≤ 8) (kk : ∀ (v : Option Value) (V' : g_V) (S' : g_L), post2 v V' S' → JW G X cc R_S (pc + 3) lv (v.toList ++ st) V' S') : JW G X cc R_S pc lv st0 V S :=
  j_callSN (host := "DykeFarms") M hd hst (g_use (List.mem_of_getElem? (i := 212) (by decide +kernel)) rfl) (g_use (List.mem_of_getElem? (i := 213) (by decide +kernel)) rfl) (g_use (List.mem_of_getElem? (i := 52) (by decide +kernel)) rfl) mc_D_has ⟨by decide +kernel, by decide +kernel, by rw [hlen]; decide +kernel⟩ ⟨hF.1.1, by have := hF.1.2; omega⟩ hF.2 hcat kk
theorem cl_S_41 (M : g_C G X.1 y_D_bit b_D_bit 1 (some .int) d2 As V S post2) (hd : decode cc pc = .ok (.invokestatic 41, 3)) (hst : st0 = As.reverse ++ st) (hlen : As.length = 1) (hF : g_ft X d2) (hcat : (st.map fun v => v.category).sum ≤ 8) (kk : ∀ (v : Option Value) (V' : g_V) (S' : g_L), post2 v V' S' → JW G X cc R_S (pc + 3) lv (v.toList ++ st) V' S') : JW G X cc R_S pc lv st0 V S :=
  j_callSN (host := "DykeFarms") M hd hst (g_use (List.mem_of_getElem? (i := 215) (by decide +kernel)) rfl) (g_use (List.mem_of_getElem? (i := 216) (by decide +kernel)) rfl) (g_use (List.mem_of_getElem? (i := 52) (by decide +kernel)) rfl) mc_D_bit ⟨by decide +kernel, by decide +kernel, by rw [hlen]; decide +kernel⟩ ⟨hF.1.1, by have := hF.1.2; omega⟩ hF.2 hcat kk
theorem cl_D_157 (hj : j < 17) (M : g_C G X.1 y_H_takeOver b_H_takeOver 3 none d2 (.ref (g_a G (hB j)) :: As) V S post2) (hd : decode cc pc = .ok (.invokevirtual 157, 3)) (hst : st0 = As.reverse ++ .ref (g_a G (hB j)) :: st) (hlen : As.length = 1) (hF : g_ft X d2) (hcat : (st.map fun v => v.category).sum ≤ 8) (kk : ∀ (v : Option Value) (V' : g_V) (S' : g_L), post2 v V' S' → JW G X cc R_D (pc + 3) lv (v.toList ++ st) V' S') : JW G X cc R_D pc lv st0 V S :=
  j_callVN (host := "DykeFarms") M hd hst (cl := (hB j)) (hB_lt (r := 0) hj (by decide)) (g_E_held (r := 0) hj (by decide)) (T := T_H) (N := 7) (ci := 2) rfl (g_use (List.mem_of_getElem? (i := 281) (by decide +kernel)) rfl) (g_use (List.mem_of_getElem? (i := 283) (by decide +kernel)) rfl) (g_use (List.mem_of_getElem? (i := 12) (by decide +kernel)) rfl) (g_use (List.mem_of_getElem? (i := 54) (by decide +kernel)) rfl) mc_H_takeOver ⟨by decide +kernel, by decide +kernel, by rw [hlen]; decide +kernel⟩ ⟨hF.1.1, by have := hF.1.2; omega⟩ hF.2 hcat kk
theorem cl_D_65 (M : g_C G X.1 y_S_firstFault b_S_firstFault 6 (some .int) d2 (.ref (g_a G 1) :: As) V S post2) (hd : decode cc pc = .ok (.invokevirtual 65, 3)) (hst : st0 = As.reverse ++ .ref (g_a G 1) :: st) (hlen : As.length = 0) (hF : g_ft X d2) (hcat : (st.map fun v => v.category).sum ≤ 8) (kk : ∀ (v : Option Value) (V' : g_V) (S' : g_L), post2 v V' S' → JW G X cc R_D (pc + 3) lv (v.toList ++ st) V' S') : JW G X cc R_D pc lv st0 V S :=
  j_callVN (host := "DykeFarms") M hd hst (cl := 1) (by decide) (rfl) (T := T_S) (N := 2) (ci := 1) rfl (g_use (List.mem_of_getElem? (i := 188) (by decide +kernel)) rfl) (g_use (List.mem_of_getElem? (i := 190) (by decide +kernel)) rfl) (g_use (List.mem_of_getElem? (i := 0) (by decide +kernel)) rfl) (g_use (List.mem_of_getElem? (i := 53) (by decide +kernel)) rfl) mc_S_firstFault ⟨by decide +kernel, by decide +kernel, by rw [hlen]; decide +kernel⟩ ⟨hF.1.1, by have := hF.1.2; omega⟩ hF.2 hcat kk
theorem cl_D_78 (hj : j < 17) (M : g_C G X.1 y_H_clear b_H_clear 2 none d2 (.ref (g_a G (hB j)) :: As) V S post2) (hd : decode cc pc = .ok (.invokevirtual 78, 3)) (hst : st0 = As.reverse ++ .ref (g_a G (hB j)) :: st) (hlen : As.length = 0) (hF : g_ft X d2) (hcat : (st.map fun v => v.category).sum ≤ 8) (kk : ∀ (v : Option Value) (V' : g_V) (S' : g_L), post2 v V' S' → JW G X cc R_D (pc + 3) lv (v.toList ++ st) V' S') : JW G X cc R_D pc lv st0 V S :=
  j_callVN (host := "DykeFarms") M hd hst (cl := (hB j)) (hB_lt (r := 0) hj (by decide)) (g_E_held (r := 0) hj (by decide)) (T := T_H) (N := 7) (ci := 2) rfl (g_use (List.mem_of_getElem? (i := 222) (by decide +kernel)) rfl) (g_use (List.mem_of_getElem? (i := 224) (by decide +kernel)) rfl) (g_use (List.mem_of_getElem? (i := 4) (by decide +kernel)) rfl) (g_use (List.mem_of_getElem? (i := 54) (by decide +kernel)) rfl) mc_H_clear ⟨by decide +kernel, by decide +kernel, by rw [hlen]; decide +kernel⟩ ⟨hF.1.1, by have := hF.1.2; omega⟩ hF.2 hcat kk
theorem cl_D_81 (M : g_C G X.1 y_S_letterAt b_S_letterAt 3 (some .int) d2 (.ref (g_a G 1) :: As) V S post2) (hd : decode cc pc = .ok (.invokevirtual 81, 3)) (hst : st0 = As.reverse ++ .ref (g_a G 1) :: st) (hlen : As.length = 1) (hF : g_ft X d2) (hcat : (st.map fun v => v.category).sum ≤ 8) (kk : ∀ (v : Option Value) (V' : g_V) (S' : g_L), post2 v V' S' → JW G X cc R_D (pc + 3) lv (v.toList ++ st) V' S') : JW G X cc R_D pc lv st0 V S :=
  j_callVN (host := "DykeFarms") M hd hst (cl := 1) (by decide) (rfl) (T := T_S) (N := 2) (ci := 1) rfl (g_use (List.mem_of_getElem? (i := 229) (by decide +kernel)) rfl) (g_use (List.mem_of_getElem? (i := 194) (by decide +kernel)) rfl) (g_use (List.mem_of_getElem? (i := 1) (by decide +kernel)) rfl) (g_use (List.mem_of_getElem? (i := 53) (by decide +kernel)) rfl) mc_S_letterAt ⟨by decide +kernel, by decide +kernel, by rw [hlen]; decide +kernel⟩ ⟨hF.1.1, by have := hF.1.2; omega⟩ hF.2 hcat kk
theorem cl_D_95 (M : g_C G X.1 y_S_figureAt b_S_figureAt 3 (some .int) d2 (.ref (g_a G 1) :: As) V S post2) (hd : decode cc pc = .ok (.invokevirtual 95, 3)) (hst : st0 = As.reverse ++ .ref (g_a G 1) :: st) (hlen : As.length = 1) (hF : g_ft X d2) (hcat : (st.map fun v => v.category).sum ≤ 8) (kk : ∀ (v : Option Value) (V' : g_V) (S' : g_L), post2 v V' S' → JW G X cc R_D (pc + 3) lv (v.toList ++ st) V' S') : JW G X cc R_D pc lv st0 V S :=
  j_callVN (host := "DykeFarms") M hd hst (cl := 1) (by decide) (rfl) (T := T_S) (N := 2) (ci := 1) rfl (g_use (List.mem_of_getElem? (i := 234) (by decide +kernel)) rfl) (g_use (List.mem_of_getElem? (i := 204) (by decide +kernel)) rfl) (g_use (List.mem_of_getElem? (i := 3) (by decide +kernel)) rfl) (g_use (List.mem_of_getElem? (i := 53) (by decide +kernel)) rfl) mc_S_figureAt ⟨by decide +kernel, by decide +kernel, by rw [hlen]; decide +kernel⟩ ⟨hF.1.1, by have := hF.1.2; omega⟩ hF.2 hcat kk
end LNK
end
section
/-! Small tools for the walks: truth values, int arrays by their cells, pure answers; the words of the contracts. -/
def g_z (b : Bool) : Nat := if b then 1 else 0
theorem g_zt {c : Prop} {i : Decidable c} (h : c) : g_z (decide c) = 1 := by rw [decide_eq_true h]; rfl
theorem g_zf {c : Prop} {i : Decidable c} (h : ¬ c) : g_z (decide c) = 0 := by rw [decide_eq_false h]; rfl
theorem g_z1 {c : Prop} {i : Decidable c} (h : c) : some (Value.int (nI 1)) = some (.int (nI (g_z (decide c)))) := by rw [g_zt h]
theorem g_z0 {c : Prop} {i : Decidable c} (h : ¬ c) : some (Value.int (nI 0)) = some (.int (nI (g_z (decide c)))) := by rw [g_zf h]
theorem g_zn {b : Bool} : narrow .boolean (.int (nI (g_z b))) = .int (nI (g_z b)) := by cases b <;> decide
theorem g_zlt (b : Bool) : g_z b < 2 ^ 31 := by cases b <;> decide
section TLS
variable {G : g_G} {X : g_X} {cc : ByteArray} {own : String} {pc : Nat} {lv : List (Option Value)} {st : List Value} {V : g_V} {S : g_L}
theorem g_pu {v : Value} (k : JW G X cc own pc lv (v :: st) V S) : ∀ (r : Option Value) (V' : g_V) (S' : g_L), (r = some v ∧ V' = V ∧ S' = S) → JW G X cc own pc lv (r.toList ++ st) V' S' := by
  rintro _ _ _ ⟨rfl, rfl, rfl⟩
  exact k
theorem j_if_eqB {c : Prop} {i : Decidable c} {off : Int} {tgt : Nat} (hd : decode cc pc = .ok (.ifCond .eq off, 3)) (ht : (pc : Int) + off = (tgt : Int)) (kt : ¬ c → JW G X cc own tgt lv st V S) (kf : c → JW G X cc own (pc + 3) lv st V S) : JW G X cc own pc lv (.int (nI (g_z (decide c))) :: st) V S := by
  by_cases h : c
  · rw [g_zt h]
    exact j_if_eqN hd ht (by decide) (fun q => absurd q (by decide)) (fun _ => kf h)
  · rw [g_zf h]
    exact j_if_eqN hd ht (by decide) (fun _ => kt h) (fun q => absurd rfl q)
theorem j_if_neB {c : Prop} {i : Decidable c} {off : Int} {tgt : Nat} (hd : decode cc pc = .ok (.ifCond .ne off, 3)) (ht : (pc : Int) + off = (tgt : Int)) (kt : c → JW G X cc own tgt lv st V S) (kf : ¬ c → JW G X cc own (pc + 3) lv st V S) : JW G X cc own pc lv (.int (nI (g_z (decide c))) :: st) V S := by
  by_cases h : c
  · rw [g_zt h]
    exact j_if_neN hd ht (by decide) (fun _ => kt h) (fun q => absurd q (by decide))
  · rw [g_zf h]
    exact j_if_neN hd ht (by decide) (fun q => absurd rfl q) (fun _ => kf h)
theorem nI_self (x : Int32) : x = nI x.toBitVec.toNat := by
  apply Int32.toBitVec_inj.1
  show x.toBitVec = BitVec.ofNat 32 x.toBitVec.toNat
  simp
theorem j_iast_raw {cl n : Nat} {i : Nat} {x : Int32} (hd : decode cc pc = .ok (.iastore, 1)) (hc : g_I cl n) (hi : i < n) (kk : JW G X cc own (pc + 1) lv st (g_up V cl i x.toBitVec.toNat) S) : JW G X cc own pc lv (.int x :: .int (nI i) :: .ref (g_a G cl) :: st) V S := by
  have e := nI_self x
  generalize x.toBitVec.toNat = k at e kk
  subst e
  exact j_iast hd hc hi kk
end TLS
theorem nI_inj {a b : Nat} (ha : a < 2 ^ 32) (hb : b < 2 ^ 32) (h : nI a = nI b) : a = b := by
  have e : (BitVec.ofNat 32 a).toNat = (BitVec.ofNat 32 b).toNat := congrArg (fun x : Int32 => x.toBitVec.toNat) h
  rw [BitVec.toNat_ofNat, BitVec.toNat_ofNat, Nat.mod_eq_of_lt ha, Nat.mod_eq_of_lt hb] at e
  exact e
theorem g_upS {V : g_V} {c k x : Nat} : g_up V c k x c k = x := if_pos ⟨rfl, rfl⟩
theorem g_upK {V : g_V} {c k x k' : Nat} (h : k' ≠ k) : g_up V c k x c k' = V c k' := if_neg (fun q => h q.2)
theorem g_upN {V : g_V} {c k x c' k' : Nat} (h : c' ≠ c) : g_up V c k x c' k' = V c' k' := if_neg (fun q => h q.1)
/-- x names one of n things -/
abbrev q_in (x : Int32) (n : Nat) : Prop := 0 ≤ x.toInt ∧ x.toInt < (n : Int)
theorem q_in_nI {k n : Nat} (hk : k < 2 ^ 31) : q_in (nI k) n ↔ k < n := by
  unfold q_in; rw [nI_toInt hk]; omega
theorem q_in_of {x : Int32} {n : Nat} (h : q_in x n) (hn : n < 2 ^ 31) : ∃ k : Nat, k < n ∧ x = nI k := by
  obtain ⟨h1, h2⟩ := h
  refine ⟨x.toInt.toNat, by omega, Int32.toInt_inj.mp ?_⟩
  rw [nI_toInt (by omega)]
  omega
theorem gI_2 : g_I 2 48 := ⟨by decide, by decide, fun _ _ _ => rfl⟩
theorem gI_3 : g_I 3 6 := ⟨by decide, by decide, fun _ _ _ => rfl⟩
theorem gI_4 : g_I 4 6 := ⟨by decide, by decide, fun _ _ _ => rfl⟩
theorem gI_5 : g_I 5 6 := ⟨by decide, by decide, fun _ _ _ => rfl⟩
theorem gI_8 : g_I 8 6 := ⟨by decide, by decide, fun _ _ _ => rfl⟩
theorem gI_9 : g_I 9 5 := ⟨by decide, by decide, fun _ _ _ => rfl⟩
theorem gI_10 : g_I 10 7 := ⟨by decide, by decide, fun _ _ _ => rfl⟩
theorem gI_11 : g_I 11 64 := ⟨by decide, by decide, fun _ _ _ => rfl⟩
theorem gI_12 : g_I 12 64 := ⟨by decide, by decide, fun _ _ _ => rfl⟩
theorem gI_13 : g_I 13 64 := ⟨by decide, by decide, fun _ _ _ => rfl⟩
theorem gI_202 : g_I 202 48 := ⟨by decide, by decide, fun _ _ _ => rfl⟩
theorem gI_203 : g_I 203 6 := ⟨by decide, by decide, fun _ _ _ => rfl⟩
theorem gI_204 : g_I 204 6 := ⟨by decide, by decide, fun _ _ _ => rfl⟩
theorem gI_205 : g_I 205 6 := ⟨by decide, by decide, fun _ _ _ => rfl⟩
theorem gI_206 : g_I 206 30 := ⟨by decide, by decide, fun _ _ _ => rfl⟩
theorem gI_207 : g_I 207 57 := ⟨by decide, by decide, fun _ _ _ => rfl⟩
theorem gI_208 : g_I 208 57 := ⟨by decide, by decide, fun _ _ _ => rfl⟩
theorem gI_209 : g_I 209 798 := ⟨by decide, by decide, fun _ _ _ => rfl⟩
theorem gI_210 : g_I 210 114 := ⟨by decide, by decide, fun _ _ _ => rfl⟩
theorem gI_212 : g_I 212 64 := ⟨by decide, by decide, fun _ _ _ => rfl⟩
theorem gI_213 : g_I 213 64 := ⟨by decide, by decide, fun _ _ _ => rfl⟩
theorem gI_h1 {j : Nat} (hj : j < 17) : g_I (hB j + 1) 6 := ⟨hB_lt hj (by decide), by decide, fun G f z => g_E_held hj (by decide)⟩
theorem gI_h2 {j : Nat} (hj : j < 17) : g_I (hB j + 2) 6 := ⟨hB_lt hj (by decide), by decide, fun G f z => g_E_held hj (by decide)⟩
theorem gI_h3 {j : Nat} (hj : j < 17) : g_I (hB j + 3) 6 := ⟨hB_lt hj (by decide), by decide, fun G f z => g_E_held hj (by decide)⟩
theorem gI_ho {j i : Nat} (hj : j < 17) (hi : i < 6) : g_I (hB j + (5 + i)) 6 := ⟨hB_lt hj (by omega), by decide, fun G f z => by
  rw [g_E_held hj (by omega)]
  rcases (by omega : i = 0 ∨ i = 1 ∨ i = 2 ∨ i = 3 ∨ i = 4 ∨ i = 5) with rfl | rfl | rfl | rfl | rfl | rfl <;> rfl⟩
theorem g_sw {x : Int32} {n m : Nat} (hm : m < 2 ^ 31) (h : ∀ k : Nat, n ≤ k → k ≤ m → ¬ x = nI k) : x.toInt < (n : Int) ∨ (m : Int) < x.toInt := by
  rcases Int.lt_or_le x.toInt n with h1 | h1
  · exact Or.inl h1
  · rcases Int.lt_or_le (m : Int) x.toInt with h2 | h2
    · exact Or.inr h2
    · exfalso
      refine h x.toInt.toNat (by omega) (by omega) (Int32.toInt_inj.mp ?_)
      rw [nI_toInt (by omega)]
      omega
theorem g_sw0_6 {x : Int32} (h0 : ¬ x = 0) (h1 : ¬ x = 1) (h2 : ¬ x = 2) (h3 : ¬ x = 3) (h4 : ¬ x = 4) (h5 : ¬ x = 5) (h6 : ¬ x = 6) : x.toInt < 0 ∨ 6 < x.toInt := by
  refine g_sw (n := 0) (m := 6) (by decide) (fun k _ hk => ?_)
  rcases (by omega : k = 0 ∨ k = 1 ∨ k = 2 ∨ k = 3 ∨ k = 4 ∨ k = 5 ∨ k = 6) with rfl | rfl | rfl | rfl | rfl | rfl | rfl
  · exact h0
  · exact h1
  · exact h2
  · exact h3
  · exact h4
  · exact h5
  · exact h6
/-! the words of the contracts -/
def q_sum : Nat → (Nat → Nat) → Nat
  | 0, _ => 0
  | n + 1, f => q_sum n f + f n
def q_or : Nat → (Nat → Nat) → Nat
  | 0, _ => 0
  | n + 1, f => q_or n f ||| f n
/-- STRENGTH by kind, grass, height -/
def q_str (k g h : Nat) : Nat := if k = 1 then h else if k = 2 then h + 2 * g else if k = 3 then h + g + 2 else h + g
def q_bh (s h x : Nat) : Nat := if s < x then 0 else if x = s then h - 1 else h
def q_in6 (b : Nat) (i : Nat) (v : Nat) : Nat := if b.testBit i then v else 0
theorem q_tb {b k : Nat} : (b >>> k) &&& 1 = 0 ↔ ¬ (b.testBit k = true) := by
  unfold Nat.testBit
  rw [Nat.and_comm 1]
  constructor
  · intro h; rw [h]; decide
  · intro h
    rcases Nat.mod_two_eq_zero_or_one (b >>> k) with q | q
    · rw [Nat.and_one_is_mod, q]
    · exact absurd (by rw [Nat.and_one_is_mod, q]; decide) h
theorem q_tb1 {b k : Nat} : ¬ (b >>> k) &&& 1 = 0 ↔ b.testBit k = true := by
  rw [q_tb]; exact Decidable.not_not
theorem q_sum_ext : ∀ {n : Nat} {f g : Nat → Nat}, (∀ i, i < n → f i = g i) → q_sum n f = q_sum n g
  | 0, _, _, _ => rfl
  | n + 1, f, g, h => by
    show q_sum n f + f n = q_sum n g + g n
    rw [q_sum_ext (fun i hi => h i (Nat.lt_succ_of_lt hi)), h n (Nat.lt_succ_self n)]
theorem q_or_ext : ∀ {n : Nat} {f g : Nat → Nat}, (∀ i, i < n → f i = g i) → q_or n f = q_or n g
  | 0, _, _, _ => rfl
  | n + 1, f, g, h => by
    show q_or n f ||| f n = q_or n g ||| g n
    rw [q_or_ext (fun i hi => h i (Nat.lt_succ_of_lt hi)), h n (Nat.lt_succ_self n)]
theorem q_sum_le {m : Nat} : ∀ {n : Nat} {f : Nat → Nat}, (∀ i, i < n → f i ≤ m) → q_sum n f ≤ n * m
  | 0, _, _ => by simp [q_sum]
  | n + 1, f, h => by
    show q_sum n f + f n ≤ _
    have h1 := q_sum_le (fun i hi => h i (Nat.lt_succ_of_lt hi))
    have h2 := h n (Nat.lt_succ_self n)
    rw [Nat.succ_mul]
    omega
theorem q_or_lt {m : Nat} : ∀ {n : Nat} {f : Nat → Nat}, (∀ i, i < n → f i < 2 ^ m) → q_or n f < 2 ^ m
  | 0, _, _ => Nat.two_pow_pos m
  | n + 1, f, h => Nat.or_lt_two_pow (q_or_lt (fun i hi => h i (Nat.lt_succ_of_lt hi))) (h n (Nat.lt_succ_self n))
end
section
/-! The class: its small methods. -/
set_option maxRecDepth 4000 in
theorem c_D_bit {G : g_G} (l : Launch) (V : g_V) (S : g_L) (k : Nat) (hk : k < 32) : g_C G l y_D_bit b_D_bit 1 (some .int) 1 [.int (nI (k))] V S (fun r V' S' => r = some (.int (nI (1 <<< k))) ∧ V' = V ∧ S' = S) := by
  refine g_C.of (lv := [some (.int (nI (k)))]) (by decide +kernel) rfl rfl rfl (Nat.le_of_ble_eq_true rfl) ?_
  refine j_iconstN (k := 1) d_D_bit_0 (by decide) ?_
  refine j_iload_n (i := 0) d_D_bit_1 rfl lg0 ?_
  refine j_ishlN d_D_bit_2 (by omega) ?_
  refine j_iret d_D_bit_3 ⟨rfl, rfl, rfl⟩
set_option maxRecDepth 4000 in
theorem c_D_has {G : g_G} (l : Launch) (V : g_V) (S : g_L) (b k : Nat) (hb : b < 2 ^ 31) (hk : k < 32) : g_C G l y_D_has b_D_has 2 (some .boolean) 1 [.int (nI (b)), .int (nI (k))] V S (fun r V' S' => r = some (.int (nI (g_z (decide (b.testBit k = true))))) ∧ V' = V ∧ S' = S) := by
  refine g_C.of (lv := [some (.int (nI (b))), some (.int (nI (k)))]) (by decide +kernel) rfl rfl rfl (Nat.le_of_ble_eq_true rfl) ?_
  refine j_iload_n (i := 0) d_D_has_0 rfl lg0 ?_
  refine j_iload_n (i := 1) d_D_has_1 rfl lg1 ?_
  refine j_ishrN d_D_has_2 (by omega) (by omega) ?_
  refine j_iconstN (k := 1) d_D_has_3 (by decide) ?_
  refine j_iandN d_D_has_4 ?_
  refine j_if_eqN (tgt := 12) d_D_has_5 (by decide) (Nat.lt_of_le_of_lt Nat.and_le_right (by decide)) (fun h_5 => ?_) (fun h_5 => ?_)
  ·
    refine j_iconstN (k := 0) d_D_has_12 (by decide) ?_
    refine j_zret d_D_has_13 (by decide) ⟨g_z0 (q_tb.mp h_5), rfl, rfl⟩
  ·
    refine j_iconstN (k := 1) d_D_has_8 (by decide) ?_
    refine j_goto (tgt := 13) d_D_has_9 (by decide) ?_
    refine j_zret d_D_has_13 (by decide) ⟨g_z1 (q_tb1.mp h_5), rfl, rfl⟩
set_option maxRecDepth 4000 in
theorem c_D_isStorm {G : g_G} (l : Launch) (V : g_V) (S : g_L) (x : Int32) : g_C G l y_D_isStorm b_D_isStorm 1 (some .boolean) 1 [.int (x)] V S (fun r V' S' => r = some (.int (nI (g_z (decide (q_in x 21))))) ∧ V' = V ∧ S' = S) := by
  refine g_C.of (lv := [some (.int (x))]) (by decide +kernel) rfl rfl rfl (Nat.le_of_ble_eq_true rfl) ?_
  refine j_iload_n (i := 0) d_D_isStorm_0 rfl lg0 ?_
  refine j_if_lt (tgt := 14) d_D_isStorm_1 (by decide) (fun h_1 => ?_) (fun h_1 => ?_)
  ·
    refine j_iconstN (k := 0) d_D_isStorm_14 (by decide) ?_
    refine j_zret d_D_isStorm_15 (by decide) ⟨g_z0 (fun q => by rw [Int32.lt_iff_toInt_lt, Int32.toInt_zero] at h_1; exact absurd q.1 (Int.not_le.mpr h_1)), rfl, rfl⟩
  ·
    refine j_iload_n (i := 0) d_D_isStorm_4 rfl lg0 ?_
    refine j_bipushN (k := 20) d_D_isStorm_5 (by decide) ?_
    refine j_icmp_gt (tgt := 14) d_D_isStorm_7 (by decide) (fun h_7 => ?_) (fun h_7 => ?_)
    ·
      refine j_iconstN (k := 0) d_D_isStorm_14 (by decide) ?_
      refine j_zret d_D_isStorm_15 (by decide) ⟨g_z0 (fun q => by rw [Int32.lt_iff_toInt_lt, nI_toInt (by decide)] at h_7; have := q.2; omega), rfl, rfl⟩
    ·
      refine j_iconstN (k := 1) d_D_isStorm_10 (by decide) ?_
      refine j_goto (tgt := 15) d_D_isStorm_11 (by decide) ?_
      refine j_zret d_D_isStorm_15 (by decide) ⟨g_z1 (by rw [Int32.lt_iff_toInt_lt, Int32.toInt_zero] at h_1; rw [Int32.lt_iff_toInt_lt, nI_toInt (by decide)] at h_7; exact ⟨by omega, by omega⟩), rfl, rfl⟩
set_option maxRecDepth 4000 in
theorem c_D_isFarm {G : g_G} (l : Launch) (V : g_V) (S : g_L) (hn : V 0 1 ≤ 6) (x : Int32) : g_C G l y_D_isFarm b_D_isFarm 2 (some .boolean) 1 [.ref (g_a G (0)), .int (x)] V S (fun r V' S' => r = some (.int (nI (g_z (decide (q_in x (V 0 1)))))) ∧ V' = V ∧ S' = S) := by
  refine g_C.of (lv := [some (.ref (g_a G (0))), some (.int (x))]) (by decide +kernel) rfl rfl rfl (Nat.le_of_ble_eq_true rfl) ?_
  refine j_iload_n (i := 1) d_D_isFarm_0 rfl lg1 ?_
  refine j_if_lt (tgt := 16) d_D_isFarm_1 (by decide) (fun h_1 => ?_) (fun h_1 => ?_)
  ·
    refine j_iconstN (k := 0) d_D_isFarm_16 (by decide) ?_
    refine j_zret d_D_isFarm_17 (by decide) ⟨g_z0 (fun q => by rw [Int32.lt_iff_toInt_lt, Int32.toInt_zero] at h_1; exact absurd q.1 (Int.not_le.mpr h_1)), rfl, rfl⟩
  ·
    refine j_iload_n (i := 1) d_D_isFarm_4 rfl lg1 ?_
    refine j_aload_n (i := 0) d_D_isFarm_5 rfl lg0 ?_
    refine gf_D_69 d_D_isFarm_6 ?_
    refine j_icmp_ge (tgt := 16) d_D_isFarm_9 (by decide) (fun h_9 => ?_) (fun h_9 => ?_)
    ·
      refine j_iconstN (k := 0) d_D_isFarm_16 (by decide) ?_
      refine j_zret d_D_isFarm_17 (by decide) ⟨g_z0 (fun q => by rw [Int32.le_iff_toInt_le, nI_toInt (by omega)] at h_9; have := q.2; omega), rfl, rfl⟩
    ·
      refine j_iconstN (k := 1) d_D_isFarm_12 (by decide) ?_
      refine j_goto (tgt := 17) d_D_isFarm_13 (by decide) ?_
      refine j_zret d_D_isFarm_17 (by decide) ⟨g_z1 (by rw [Int32.lt_iff_toInt_lt, Int32.toInt_zero] at h_1; rw [Int32.le_iff_toInt_le, nI_toInt (by omega)] at h_9; exact ⟨by omega, by omega⟩), rfl, rfl⟩
set_option maxRecDepth 4000 in
theorem c_D_everyFarm {G : g_G} (l : Launch) (V : g_V) (S : g_L) (hn : V 0 1 ≤ 6) : g_C G l y_D_everyFarm b_D_everyFarm 1 (some .int) 1 [.ref (g_a G (0))] V S (fun r V' S' => r = some (.int (nI (1 <<< V 0 1 - 1))) ∧ V' = V ∧ S' = S) := by
  refine g_C.of (lv := [some (.ref (g_a G (0)))]) (by decide +kernel) rfl rfl rfl (Nat.le_of_ble_eq_true rfl) ?_
  refine j_iconstN (k := 1) d_D_everyFarm_0 (by decide) ?_
  refine j_aload_n (i := 0) d_D_everyFarm_1 rfl lg0 ?_
  refine gf_D_69 d_D_everyFarm_2 ?_
  refine j_ishlN d_D_everyFarm_5 (by omega) ?_
  refine j_iconstN (k := 1) d_D_everyFarm_6 (by decide) ?_
  refine j_isubN d_D_everyFarm_7 (Nat.one_shiftLeft _ ▸ Nat.two_pow_pos _) ?_
  refine j_iret d_D_everyFarm_8 ⟨rfl, rfl, rfl⟩
set_option maxRecDepth 4000 in
theorem c_D_actRow {G : g_G} (l : Launch) (V : g_V) (S : g_L) (hf : V 0 7 < 14) (a : Nat) (ha : a < 1000) : g_C G l y_D_actRow b_D_actRow 2 (some .int) 1 [.ref (g_a G (0)), .int (nI (a))] V S (fun r V' S' => r = some (.int (nI ((V 0 7 + a) % 14))) ∧ V' = V ∧ S' = S) := by
  refine g_C.of (lv := [some (.ref (g_a G (0))), some (.int (nI (a)))]) (by decide +kernel) rfl rfl rfl (Nat.le_of_ble_eq_true rfl) ?_
  refine j_aload_n (i := 0) d_D_actRow_0 rfl lg0 ?_
  refine gf_D_224 d_D_actRow_1 ?_
  refine j_iload_n (i := 1) d_D_actRow_4 rfl lg1 ?_
  refine j_iaddN d_D_actRow_5 ?_
  refine j_bipushN (k := 14) d_D_actRow_6 (by decide) ?_
  refine j_iremN d_D_actRow_8 (by omega) (by omega) (by omega) ?_
  refine j_iret d_D_actRow_9 ⟨rfl, rfl, rfl⟩
set_option maxRecDepth 4000 in
theorem c_D_strengthAt {G : g_G} (l : Launch) (V : g_V) (S : g_L) (s h : Nat) (hs : s < 6) (hk : V 5 s ≤ 3) : g_C G l y_D_strengthAt b_D_strengthAt 3 (some .int) 1 [.ref (g_a G (0)), .int (nI (s)), .int (nI (h))] V S (fun r V' S' => r = some (.int (nI (q_str (V 5 s) (V 3 s) h))) ∧ V' = V ∧ S' = S) := by
  refine g_C.of (lv := [some (.ref (g_a G (0))), some (.int (nI (s))), some (.int (nI (h)))]) (by decide +kernel) rfl rfl rfl (Nat.le_of_ble_eq_true rfl) ?_
  refine j_aload_n (i := 0) d_D_strengthAt_0 rfl lg0 ?_
  refine gf_D_23 d_D_strengthAt_1 ?_
  refine j_iload_n (i := 1) d_D_strengthAt_4 rfl lg1 ?_
  refine j_iald d_D_strengthAt_5 gI_5 (by omega) ?_
  have hs_6 : (nI (V (5) (s))).toInt = ((V (5) (s) : Nat) : Int) := nI_toInt (by omega)
  by_cases h_6_1 : V (5) (s) = 1
  ·
    refine j_tableIn (tgt := 32) d_D_strengthAt_6 (by rw [hs_6, h_6_1]; decide) (by rw [hs_6, h_6_1]; decide) (by rw [hs_6, h_6_1]; rfl) (by decide) ?_
    refine j_iload_n (i := 2) d_D_strengthAt_32 rfl lg2 ?_
    refine j_iret d_D_strengthAt_33 ⟨by simp [q_str, *], rfl, rfl⟩
  by_cases h_6_2 : V (5) (s) = 2
  ·
    refine j_tableIn (tgt := 34) d_D_strengthAt_6 (by rw [hs_6, h_6_2]; decide) (by rw [hs_6, h_6_2]; decide) (by rw [hs_6, h_6_2]; rfl) (by decide) ?_
    refine j_iload_n (i := 2) d_D_strengthAt_34 rfl lg2 ?_
    refine j_iconstN (k := 2) d_D_strengthAt_35 (by decide) ?_
    refine j_aload_n (i := 0) d_D_strengthAt_36 rfl lg0 ?_
    refine gf_D_16 d_D_strengthAt_37 ?_
    refine j_iload_n (i := 1) d_D_strengthAt_40 rfl lg1 ?_
    refine j_iald d_D_strengthAt_41 gI_3 (by omega) ?_
    refine j_imulN d_D_strengthAt_42 ?_
    refine j_iaddN d_D_strengthAt_43 ?_
    refine j_iret d_D_strengthAt_44 ⟨by simp [q_str, *], rfl, rfl⟩
  by_cases h_6_3 : V (5) (s) = 3
  ·
    refine j_tableIn (tgt := 45) d_D_strengthAt_6 (by rw [hs_6, h_6_3]; decide) (by rw [hs_6, h_6_3]; decide) (by rw [hs_6, h_6_3]; rfl) (by decide) ?_
    refine j_iload_n (i := 2) d_D_strengthAt_45 rfl lg2 ?_
    refine j_aload_n (i := 0) d_D_strengthAt_46 rfl lg0 ?_
    refine gf_D_16 d_D_strengthAt_47 ?_
    refine j_iload_n (i := 1) d_D_strengthAt_50 rfl lg1 ?_
    refine j_iald d_D_strengthAt_51 gI_3 (by omega) ?_
    refine j_iaddN d_D_strengthAt_52 ?_
    refine j_iconstN (k := 2) d_D_strengthAt_53 (by decide) ?_
    refine j_iaddN d_D_strengthAt_54 ?_
    refine j_iret d_D_strengthAt_55 ⟨by simp [q_str, *], rfl, rfl⟩
  refine j_tableOut (tgt := 56) d_D_strengthAt_6 (by rw [hs_6]; omega) (by decide) ?_
  refine j_iload_n (i := 2) d_D_strengthAt_56 rfl lg2 ?_
  refine j_aload_n (i := 0) d_D_strengthAt_57 rfl lg0 ?_
  refine gf_D_16 d_D_strengthAt_58 ?_
  refine j_iload_n (i := 1) d_D_strengthAt_61 rfl lg1 ?_
  refine j_iald d_D_strengthAt_62 gI_3 (by omega) ?_
  refine j_iaddN d_D_strengthAt_63 ?_
  refine j_iret d_D_strengthAt_64 ⟨by simp [q_str, *], rfl, rfl⟩
theorem q_str_lt {k g h : Nat} (hg : g ≤ 3) (hh : h ≤ 1000) : q_str k g h < 2000 := by unfold q_str; split <;> (try split) <;> (try split) <;> omega
def g_K (V : g_V) : Prop := ∀ i, i < 6 → V 3 i ≤ 3 ∧ V 4 i ≤ 9 ∧ V 5 i ≤ 3
theorem g_max0 {h : Nat} (hh : h ≤ 15) : (if nI h - nI 1 < nI 0 then nI 0 else nI h - nI 1) = nI (h - 1) := by
  rcases Nat.eq_zero_or_pos h with rfl | h0
  · decide
  · rw [nI_sub h0, if_neg (nI_nlt (Nat.zero_le _) (by omega))]
set_option maxRecDepth 4000 in
theorem c_D_heightBehind {G : g_G} (l : Launch) (V : g_V) (S : g_L) (hK : g_K V) (s h x : Nat) (hs : s < 6) (hh : h ≤ 15) (hx : x ≤ 20) : g_C G l y_D_heightBehind b_D_heightBehind 5 (some .int) 2 [.ref (g_a G (0)), .int (nI (s)), .int (nI (h)), .int (nI (x))] V S (fun r V' S' => r = some (.int (nI (q_bh (q_str (V 5 s) (V 3 s) h) h x))) ∧ V' = V ∧ S' = S) := by
  refine g_C.of (lv := [some (.ref (g_a G (0))), some (.int (nI (s))), some (.int (nI (h))), some (.int (nI (x))), none]) (by decide +kernel) rfl rfl rfl (Nat.le_of_ble_eq_true rfl) ?_
  have hq := q_str_lt (k := V 5 s) (g := V 3 s) (h := h) (hK s hs).1 (by omega)
  refine j_aload_n (i := 0) d_D_heightBehind_0 rfl lg0 ?_
  refine j_iload_n (i := 1) d_D_heightBehind_1 rfl lg1 ?_
  refine j_iload_n (i := 2) d_D_heightBehind_2 rfl lg2 ?_
  refine cl_D_126 (c_D_strengthAt l V S (s) (h) (by omega) (hK (s) (by omega)).2.2) d_D_heightBehind_3 rfl rfl (g_ftM (by decide)) (Nat.le_of_ble_eq_true rfl) (g_pu ?_)
  refine j_istore d_D_heightBehind_6 ls4i ?_
  refine j_iload_n (i := 3) d_D_heightBehind_8 rfl lg3 ?_
  refine j_iload d_D_heightBehind_9 lg4 ?_
  refine j_icmp_leN (tgt := 16) d_D_heightBehind_11 (by decide) (by omega) (by omega) (fun h_11 => ?_) (fun h_11 => ?_)
  ·
    refine j_iload_n (i := 3) d_D_heightBehind_16 rfl lg3 ?_
    refine j_iload d_D_heightBehind_17 lg4 ?_
    refine j_icmp_neN (tgt := 32) d_D_heightBehind_19 (by decide) (by omega) (by omega) (fun h_19 => ?_) (fun h_19 => ?_)
    ·
      refine j_iload_n (i := 2) d_D_heightBehind_32 rfl lg2 ?_
      refine j_iret d_D_heightBehind_33 ⟨by unfold q_bh; rw [if_neg (by omega), if_neg (by omega)], rfl, rfl⟩
    ·
      refine j_iload_n (i := 2) d_D_heightBehind_22 rfl lg2 ?_
      refine j_iconstN (k := 1) d_D_heightBehind_23 (by decide) ?_
      refine j_isub d_D_heightBehind_24 ?_
      refine j_iconstN (k := 0) d_D_heightBehind_25 (by decide) ?_
      refine cm_D_227 d_D_heightBehind_26 (g_ftM (by decide)) (Nat.le_of_ble_eq_true rfl) ?_
      refine j_goto (tgt := 33) d_D_heightBehind_29 (by decide) ?_
      refine j_iret d_D_heightBehind_33 ⟨by rw [g_max0 hh]; unfold q_bh; rw [if_neg (by omega), if_pos h_19], rfl, rfl⟩
  ·
    refine j_iconstN (k := 0) d_D_heightBehind_14 (by decide) ?_
    refine j_iret d_D_heightBehind_15 ⟨by unfold q_bh; rw [if_pos h_11], rfl, rfl⟩
end
section
/-! The class: its loops over farms. -/
def q_brk (n : Nat) (s : Nat → Nat) (x : Nat) : Nat := q_or n (fun i => if s i < x then 1 <<< i else 0)
def q_pick (n : Nat) (w : Nat → Nat) (b : Nat) : Nat := q_sum n (fun i => if b.testBit i = true then w i else 0)
def q_lack (n : Nat) (s : Nat → Nat) (b x : Nat) : Nat := q_sum n (fun i => if b.testBit i = true then x - s i else 0)
def q_up (d : Nat) : Nat → Nat → Nat
  | 0, b => b
  | k + 1, b => if (q_up d k b).testBit k = true ∧ ¬ d.testBit k = true then q_up d k b ||| 1 <<< (k + 1) else q_up d k b
def q_dn (d : Nat) : Nat → Nat → Nat
  | 0, c => c
  | k + 1, c => q_dn d k (if c.testBit (k + 1) = true ∧ ¬ d.testBit k = true then c ||| 1 <<< k else c)
/-- which lands are wet, where the stretches b broke: n farms, dams d -/
def q_wet (n d b : Nat) : Nat := q_dn d (n - 1) (q_up d (n - 1) b)
theorem q_bit_lt {k m : Nat} (h : k < m) : 1 <<< k < 2 ^ m := by
  rw [Nat.one_shiftLeft]; exact Nat.pow_lt_pow_right (by decide) h
theorem q_brk_lt {n x m : Nat} {s : Nat → Nat} (h : n ≤ m) : q_brk n s x < 2 ^ m := q_or_lt (fun i hi => by
  show (if s i < x then 1 <<< i else 0) < _
  split
  · exact q_bit_lt (by omega)
  · exact Nat.two_pow_pos m)
theorem q_up_lt {d b m : Nat} (hb : b < 2 ^ m) : ∀ {k : Nat}, k < m → q_up d k b < 2 ^ m
  | 0, _ => hb
  | k + 1, h => by
    show (if _ then _ else _) < _
    have := q_up_lt (d := d) hb (k := k) (by omega)
    split
    · exact Nat.or_lt_two_pow this (q_bit_lt h)
    · exact this
theorem q_dn_lt {d m : Nat} : ∀ {k c : Nat}, c < 2 ^ m → k < m → q_dn d k c < 2 ^ m
  | 0, _, hc, _ => hc
  | k + 1, c, hc, h => by
    show q_dn d k _ < _
    refine q_dn_lt ?_ (by omega)
    split
    · exact Nat.or_lt_two_pow hc (q_bit_lt (by omega))
    · exact hc
theorem q_wet_lt {n d b : Nat} (hn : n ≤ 6) (hb : b < 64) : q_wet n d b < 64 := q_dn_lt (m := 6) (q_up_lt (m := 6) hb (by omega)) (by omega)
/-- the loops that count down -/
def g_dn (i : Int32) (k : Nat) : Prop := (i < 0 ∧ k = 0) ∨ (1 ≤ k ∧ i = nI (k - 1))
theorem g_neg1 : Int32.ofInt (-1) = - nI 1 := by decide
theorem g_dn_dec {k : Nat} : g_dn (nI k + Int32.ofInt (-1)) k := by
  rcases Nat.eq_zero_or_pos k with rfl | h
  · exact Or.inl ⟨by decide, rfl⟩
  · exact Or.inr ⟨h, by rw [g_neg1, ← Int32.sub_eq_add_neg, nI_sub h]⟩
theorem g_dn_2 {n : Nat} : g_dn (nI n - nI 2) (n - 1) := by
  rcases (by omega : n = 0 ∨ n = 1 ∨ 2 ≤ n) with rfl | rfl | h
  · exact Or.inl ⟨by decide, rfl⟩
  · exact Or.inl ⟨by decide, rfl⟩
  · exact Or.inr ⟨by omega, by rw [nI_sub h]; congr 1⟩
theorem g_dn_pos {i : Int32} {k : Nat} (h : g_dn i k) (h0 : ¬ i < 0) : ∃ k' : Nat, k = k' + 1 ∧ i = nI k' := by
  rcases h with h | ⟨h, e⟩
  · exact absurd h.1 h0
  · exact ⟨k - 1, by omega, e⟩
theorem g_dn_neg {i : Int32} {k : Nat} (h : g_dn i k) (h0 : i < 0) (hk : k < 2 ^ 31) : k = 0 := by
  rcases h with h | ⟨h, e⟩
  · exact h.2
  · rw [e] at h0; exact absurd h0 (nI_pos (by omega))
theorem g_le1 {n i : Nat} (hn : n < 2 ^ 31) (hi : i < 2 ^ 31) : nI n - nI 1 ≤ nI i ↔ n ≤ i + 1 := by
  rcases Nat.eq_zero_or_pos n with rfl | h
  · constructor
    · intro _; omega
    · intro _
      rw [Int32.le_iff_toInt_le, nI_toInt hi]
      have : (nI 0 - nI 1 : Int32).toInt = -1 := by decide
      omega
  · rw [nI_sub h, nI_leI (by omega) hi]; omega
def D_str (V : g_V) (i : Nat) : Nat := q_str (V 5 i) (V 3 i) (V (hB 0 + 1) i)
def g_H (V : g_V) (c : Nat) : Prop := ∀ i, i < 6 → V c i ≤ 15
theorem D_str_lt {V : g_V} (hK : g_K V) (hH : g_H V (hB 0 + 1)) {i : Nat} (hi : i < 6) : D_str V i < 2000 := q_str_lt (hK i hi).1 (by have := hH i hi; omega)
set_option maxRecDepth 4000 in
theorem lp_D_brokenBy {G : g_G} (l : Launch) (V : g_V) (S : g_L) (hn : V 0 1 ≤ 6) (hK : g_K V) (hH : g_H V (hB 0 + 1)) (x : Nat) (hx : x ≤ 20) : ∀ (n : Nat) (i b : Nat), (i ≤ V 0 1) → (b = q_brk i (D_str V) x) → V 0 1 - i < n → JW G (g_M G l 2 (some .int) (fun r V' S' => r = some (.int (nI (q_brk (V 0 1) (D_str V) x))) ∧ V' = V ∧ S' = S)) b_D_brokenBy R_D 4 [some (.ref (g_a G (0))), some (.int (nI (x))), some (.int (nI (b))), some (.int (nI (i)))] [] V S := by
  intro n
  induction n with
  | zero => intro i b hi hb hm; exact absurd hm (Nat.not_lt_zero _)
  | succ n ih =>
    intro i b hi hb hm
    refine j_iload_n (i := 3) d_D_brokenBy_4 rfl lg3 ?_
    refine j_aload_n (i := 0) d_D_brokenBy_5 rfl lg0 ?_
    refine gf_D_69 d_D_brokenBy_6 ?_
    refine j_icmp_geN (tgt := 43) d_D_brokenBy_9 (by decide) (by omega) (by omega) (fun h_9 => ?_) (fun h_9 => ?_)
    ·
      refine j_iload_n (i := 2) d_D_brokenBy_43 rfl lg2 ?_
      refine j_iret d_D_brokenBy_44 ⟨by rw [hb, show i = V 0 1 by omega], rfl, rfl⟩
    ·
      refine j_iload_n (i := 1) d_D_brokenBy_12 rfl lg1 ?_
      refine j_aload_n (i := 0) d_D_brokenBy_13 rfl lg0 ?_
      refine j_iload_n (i := 3) d_D_brokenBy_14 rfl lg3 ?_
      refine j_aload_n (i := 0) d_D_brokenBy_15 rfl lg0 ?_
      refine gf_D_29 d_D_brokenBy_16 ?_
      refine gf_D_117 (j := 0) (by decide) d_D_brokenBy_19 ?_
      refine j_iload_n (i := 3) d_D_brokenBy_22 rfl lg3 ?_
      refine j_iald d_D_brokenBy_23 (gI_h1 (by decide)) (by omega) ?_
      have hs := D_str_lt hK hH (i := i) (by omega)
      unfold D_str at hs
      refine cl_D_126 (c_D_strengthAt l V S (i) (V (hB 0 + 1) (i)) (by omega) (hK (i) (by omega)).2.2) d_D_brokenBy_24 rfl rfl (g_ftM (by decide)) (Nat.le_of_ble_eq_true rfl) (g_pu ?_)
      refine j_icmp_leN (tgt := 37) d_D_brokenBy_27 (by decide) (by omega) (by omega) (fun h_27 => ?_) (fun h_27 => ?_)
      ·
        refine j_iincN (k := 1) d_D_brokenBy_37 lg3 (by decide) ls3i ?_
        refine j_goto (tgt := 4) d_D_brokenBy_40 (by decide) ?_
        exact ih (i + 1) _ (by omega) (by rw [hb]; show _ = q_or i _ ||| (if _ then _ else _); rw [if_neg (show ¬ D_str V i < x from Nat.not_lt.mpr h_27), Nat.or_zero]; rfl) (by omega)
      ·
        refine j_iload_n (i := 2) d_D_brokenBy_30 rfl lg2 ?_
        refine j_iload_n (i := 3) d_D_brokenBy_31 rfl lg3 ?_
        refine cl_D_98 (c_D_bit l V S (i) (by omega)) d_D_brokenBy_32 rfl rfl (g_ftM (by decide)) (Nat.le_of_ble_eq_true rfl) (g_pu ?_)
        refine j_iorN d_D_brokenBy_35 ?_
        refine j_istore_n d_D_brokenBy_36 rfl ls2i ?_
        refine j_iincN (k := 1) d_D_brokenBy_37 lg3 (by decide) ls3i ?_
        refine j_goto (tgt := 4) d_D_brokenBy_40 (by decide) ?_
        exact ih (i + 1) _ (by omega) (by rw [hb]; show _ = q_or i _ ||| (if _ then _ else _); rw [if_pos (show D_str V i < x from h_27)]; rfl) (by omega)
set_option maxRecDepth 4000 in
theorem c_D_brokenBy {G : g_G} (l : Launch) (V : g_V) (S : g_L) (hn : V 0 1 ≤ 6) (hK : g_K V) (hH : g_H V (hB 0 + 1)) (x : Nat) (hx : x ≤ 20) : g_C G l y_D_brokenBy b_D_brokenBy 4 (some .int) 2 [.ref (g_a G (0)), .int (nI (x))] V S (fun r V' S' => r = some (.int (nI (q_brk (V 0 1) (D_str V) x))) ∧ V' = V ∧ S' = S) := by
  refine g_C.of (lv := [some (.ref (g_a G (0))), some (.int (nI (x))), none, none]) (by decide +kernel) rfl rfl rfl (Nat.le_of_ble_eq_true rfl) ?_
  refine j_iconstN (k := 0) d_D_brokenBy_0 (by decide) ?_
  refine j_istore_n d_D_brokenBy_1 rfl ls2i ?_
  refine j_iconstN (k := 0) d_D_brokenBy_2 (by decide) ?_
  refine j_istore_n d_D_brokenBy_3 rfl ls3i ?_
  exact lp_D_brokenBy l V S hn hK hH x hx _ 0 0 (by omega) rfl (Nat.lt_succ_self _)
set_option maxRecDepth 4000 in
theorem lp_D_worthOf {G : g_G} (l : Launch) (V : g_V) (S : g_L) (hn : V 0 1 ≤ 6) (hW : ∀ i, i < 6 → V 4 i ≤ 9) (b : Nat) (hb : b < 64) : ∀ (n : Nat) (i s : Nat), (i ≤ V 0 1) → (s = q_pick i (V 4) b) → V 0 1 - i < n → JW G (g_M G l 2 (some .int) (fun r V' S' => r = some (.int (nI (q_pick (V 0 1) (V 4) b))) ∧ V' = V ∧ S' = S)) b_D_worthOf R_D 4 [some (.ref (g_a G (0))), some (.int (nI (b))), some (.int (nI (s))), some (.int (nI (i)))] [] V S := by
  intro n
  induction n with
  | zero => intro i s hi hs hm; exact absurd hm (Nat.not_lt_zero _)
  | succ n ih =>
    intro i s hi hs hm
    refine j_iload_n (i := 3) d_D_worthOf_4 rfl lg3 ?_
    refine j_aload_n (i := 0) d_D_worthOf_5 rfl lg0 ?_
    refine gf_D_69 d_D_worthOf_6 ?_
    refine j_icmp_geN (tgt := 35) d_D_worthOf_9 (by decide) (by omega) (by omega) (fun h_9 => ?_) (fun h_9 => ?_)
    ·
      refine j_iload_n (i := 2) d_D_worthOf_35 rfl lg2 ?_
      refine j_iret d_D_worthOf_36 ⟨by rw [hs, show i = V 0 1 by omega], rfl, rfl⟩
    ·
      refine j_iload_n (i := 1) d_D_worthOf_12 rfl lg1 ?_
      refine j_iload_n (i := 3) d_D_worthOf_13 rfl lg3 ?_
      refine cl_D_150 (c_D_has l V S (b) (i) (by omega) (by omega)) d_D_worthOf_14 rfl rfl (g_ftM (by decide)) (Nat.le_of_ble_eq_true rfl) (g_pu ?_)
      refine j_if_eqB (tgt := 29) d_D_worthOf_17 (by decide) (fun h_17 => ?_) (fun h_17 => ?_)
      ·
        refine j_iincN (k := 1) d_D_worthOf_29 lg3 (by decide) ls3i ?_
        refine j_goto (tgt := 4) d_D_worthOf_32 (by decide) ?_
        exact ih (i + 1) _ (by omega) (by rw [hs]; show _ = q_sum i _ + (if _ then _ else _); rw [if_neg h_17]; rfl) (by omega)
      ·
        refine j_iload_n (i := 2) d_D_worthOf_20 rfl lg2 ?_
        refine j_aload_n (i := 0) d_D_worthOf_21 rfl lg0 ?_
        refine gf_D_20 d_D_worthOf_22 ?_
        refine j_iload_n (i := 3) d_D_worthOf_25 rfl lg3 ?_
        refine j_iald d_D_worthOf_26 gI_4 (by omega) ?_
        refine j_iaddN d_D_worthOf_27 ?_
        refine j_istore_n d_D_worthOf_28 rfl ls2i ?_
        refine j_iincN (k := 1) d_D_worthOf_29 lg3 (by decide) ls3i ?_
        refine j_goto (tgt := 4) d_D_worthOf_32 (by decide) ?_
        exact ih (i + 1) _ (by omega) (by rw [hs]; show _ = q_sum i _ + (if _ then _ else _); rw [if_pos h_17]; rfl) (by omega)
set_option maxRecDepth 4000 in
theorem c_D_worthOf {G : g_G} (l : Launch) (V : g_V) (S : g_L) (hn : V 0 1 ≤ 6) (hW : ∀ i, i < 6 → V 4 i ≤ 9) (b : Nat) (hb : b < 64) : g_C G l y_D_worthOf b_D_worthOf 4 (some .int) 2 [.ref (g_a G (0)), .int (nI (b))] V S (fun r V' S' => r = some (.int (nI (q_pick (V 0 1) (V 4) b))) ∧ V' = V ∧ S' = S) := by
  refine g_C.of (lv := [some (.ref (g_a G (0))), some (.int (nI (b))), none, none]) (by decide +kernel) rfl rfl rfl (Nat.le_of_ble_eq_true rfl) ?_
  refine j_iconstN (k := 0) d_D_worthOf_0 (by decide) ?_
  refine j_istore_n d_D_worthOf_1 rfl ls2i ?_
  refine j_iconstN (k := 0) d_D_worthOf_2 (by decide) ?_
  refine j_istore_n d_D_worthOf_3 rfl ls3i ?_
  exact lp_D_worthOf l V S hn hW b hb _ 0 0 (by omega) rfl (Nat.lt_succ_self _)
set_option maxRecDepth 4000 in
theorem lp_D_clayOf {G : g_G} (l : Launch) (V : g_V) (S : g_L) (hn : V 0 1 ≤ 6) (hW : ∀ i, i < 6 → V (hB 0 + 2) i ≤ 1000) (b : Nat) (hb : b < 64) : ∀ (n : Nat) (i s : Nat), (i ≤ V 0 1) → (s = q_pick i (V (hB 0 + 2)) b) → V 0 1 - i < n → JW G (g_M G l 2 (some .int) (fun r V' S' => r = some (.int (nI (q_pick (V 0 1) (V (hB 0 + 2)) b))) ∧ V' = V ∧ S' = S)) b_D_clayOf R_D 4 [some (.ref (g_a G (0))), some (.int (nI (b))), some (.int (nI (s))), some (.int (nI (i)))] [] V S := by
  intro n
  induction n with
  | zero => intro i s hi hs hm; exact absurd hm (Nat.not_lt_zero _)
  | succ n ih =>
    intro i s hi hs hm
    refine j_iload_n (i := 3) d_D_clayOf_4 rfl lg3 ?_
    refine j_aload_n (i := 0) d_D_clayOf_5 rfl lg0 ?_
    refine gf_D_69 d_D_clayOf_6 ?_
    refine j_icmp_geN (tgt := 38) d_D_clayOf_9 (by decide) (by omega) (by omega) (fun h_9 => ?_) (fun h_9 => ?_)
    ·
      refine j_iload_n (i := 2) d_D_clayOf_38 rfl lg2 ?_
      refine j_iret d_D_clayOf_39 ⟨by rw [hs, show i = V 0 1 by omega], rfl, rfl⟩
    ·
      refine j_iload_n (i := 1) d_D_clayOf_12 rfl lg1 ?_
      refine j_iload_n (i := 3) d_D_clayOf_13 rfl lg3 ?_
      refine cl_D_150 (c_D_has l V S (b) (i) (by omega) (by omega)) d_D_clayOf_14 rfl rfl (g_ftM (by decide)) (Nat.le_of_ble_eq_true rfl) (g_pu ?_)
      refine j_if_eqB (tgt := 32) d_D_clayOf_17 (by decide) (fun h_17 => ?_) (fun h_17 => ?_)
      ·
        refine j_iincN (k := 1) d_D_clayOf_32 lg3 (by decide) ls3i ?_
        refine j_goto (tgt := 4) d_D_clayOf_35 (by decide) ?_
        exact ih (i + 1) _ (by omega) (by rw [hs]; show _ = q_sum i _ + (if _ then _ else _); rw [if_neg h_17]; rfl) (by omega)
      ·
        refine j_iload_n (i := 2) d_D_clayOf_20 rfl lg2 ?_
        refine j_aload_n (i := 0) d_D_clayOf_21 rfl lg0 ?_
        refine gf_D_29 d_D_clayOf_22 ?_
        refine gf_D_120 (j := 0) (by decide) d_D_clayOf_25 ?_
        refine j_iload_n (i := 3) d_D_clayOf_28 rfl lg3 ?_
        refine j_iald d_D_clayOf_29 (gI_h2 (by decide)) (by omega) ?_
        refine j_iaddN d_D_clayOf_30 ?_
        refine j_istore_n d_D_clayOf_31 rfl ls2i ?_
        refine j_iincN (k := 1) d_D_clayOf_32 lg3 (by decide) ls3i ?_
        refine j_goto (tgt := 4) d_D_clayOf_35 (by decide) ?_
        exact ih (i + 1) _ (by omega) (by rw [hs]; show _ = q_sum i _ + (if _ then _ else _); rw [if_pos h_17]; rfl) (by omega)
set_option maxRecDepth 4000 in
theorem c_D_clayOf {G : g_G} (l : Launch) (V : g_V) (S : g_L) (hn : V 0 1 ≤ 6) (hW : ∀ i, i < 6 → V (hB 0 + 2) i ≤ 1000) (b : Nat) (hb : b < 64) : g_C G l y_D_clayOf b_D_clayOf 4 (some .int) 2 [.ref (g_a G (0)), .int (nI (b))] V S (fun r V' S' => r = some (.int (nI (q_pick (V 0 1) (V (hB 0 + 2)) b))) ∧ V' = V ∧ S' = S) := by
  refine g_C.of (lv := [some (.ref (g_a G (0))), some (.int (nI (b))), none, none]) (by decide +kernel) rfl rfl rfl (Nat.le_of_ble_eq_true rfl) ?_
  refine j_iconstN (k := 0) d_D_clayOf_0 (by decide) ?_
  refine j_istore_n d_D_clayOf_1 rfl ls2i ?_
  refine j_iconstN (k := 0) d_D_clayOf_2 (by decide) ?_
  refine j_istore_n d_D_clayOf_3 rfl ls3i ?_
  exact lp_D_clayOf l V S hn hW b hb _ 0 0 (by omega) rfl (Nat.lt_succ_self _)
theorem g_maxs {x s : Nat} (hx : x < 2 ^ 31) (hs : s < 2 ^ 31) : (if nI x - nI s < nI 0 then nI 0 else nI x - nI s) = nI (x - s) := by
  rcases Nat.lt_or_ge s x with h | h
  · rw [nI_sub (by omega), if_neg (nI_nlt (Nat.zero_le _) (by omega))]
  · rw [show x - s = 0 by omega]
    split
    · rfl
    · rename_i q
      have e : (nI x - nI s).toInt = (x : Int) - s := by
        rw [Int32.toInt_sub, nI_toInt hx, nI_toInt hs]
        exact Int.bmod_eq_of_le (by omega) (by omega)
      rw [Int32.lt_iff_toInt_lt, e, nI_toInt (by decide)] at q
      have : x = s := by omega
      rw [this, Int32.sub_self]
      rfl
set_option maxRecDepth 4000 in
theorem lp_D_lackOf {G : g_G} (l : Launch) (V : g_V) (S : g_L) (hn : V 0 1 ≤ 6) (hK : g_K V) (hH : g_H V (hB 0 + 1)) (b x : Nat) (hb : b < 64) (hx : x ≤ 20) : ∀ (n : Nat) (i s : Nat), (i ≤ V 0 1) → (s = q_lack i (D_str V) b x) → V 0 1 - i < n → JW G (g_M G l 2 (some .int) (fun r V' S' => r = some (.int (nI (q_lack (V 0 1) (D_str V) b x))) ∧ V' = V ∧ S' = S)) b_D_lackOf R_D 5 [some (.ref (g_a G (0))), some (.int (nI (b))), some (.int (nI (x))), some (.int (nI (s))), some (.int (nI (i)))] [] V S := by
  intro n
  induction n with
  | zero => intro i s hi hs hm; exact absurd hm (Nat.not_lt_zero _)
  | succ n ih =>
    intro i s hi hs hm
    refine j_iload d_D_lackOf_5 lg4 ?_
    refine j_aload_n (i := 0) d_D_lackOf_7 rfl lg0 ?_
    refine gf_D_69 d_D_lackOf_8 ?_
    refine j_icmp_geN (tgt := 54) d_D_lackOf_11 (by decide) (by omega) (by omega) (fun h_11 => ?_) (fun h_11 => ?_)
    ·
      refine j_iload_n (i := 3) d_D_lackOf_54 rfl lg3 ?_
      refine j_iret d_D_lackOf_55 ⟨by rw [hs, show i = V 0 1 by omega], rfl, rfl⟩
    ·
      refine j_iload_n (i := 1) d_D_lackOf_14 rfl lg1 ?_
      refine j_iload d_D_lackOf_15 lg4 ?_
      refine cl_D_150 (c_D_has l V S (b) (i) (by omega) (by omega)) d_D_lackOf_17 rfl rfl (g_ftM (by decide)) (Nat.le_of_ble_eq_true rfl) (g_pu ?_)
      refine j_if_eqB (tgt := 48) d_D_lackOf_20 (by decide) (fun h_20 => ?_) (fun h_20 => ?_)
      ·
        refine j_iincN (k := 1) d_D_lackOf_48 lg4 (by decide) ls4i ?_
        refine j_goto (tgt := 5) d_D_lackOf_51 (by decide) ?_
        exact ih (i + 1) _ (by omega) (by rw [hs]; show _ = q_sum i _ + (if _ then _ else _); rw [if_neg h_20]; rfl) (by omega)
      ·
        refine j_iload_n (i := 3) d_D_lackOf_23 rfl lg3 ?_
        refine j_iload_n (i := 2) d_D_lackOf_24 rfl lg2 ?_
        refine j_aload_n (i := 0) d_D_lackOf_25 rfl lg0 ?_
        refine j_iload d_D_lackOf_26 lg4 ?_
        refine j_aload_n (i := 0) d_D_lackOf_28 rfl lg0 ?_
        refine gf_D_29 d_D_lackOf_29 ?_
        refine gf_D_117 (j := 0) (by decide) d_D_lackOf_32 ?_
        refine j_iload d_D_lackOf_35 lg4 ?_
        refine j_iald d_D_lackOf_37 (gI_h1 (by decide)) (by omega) ?_
        have hq := D_str_lt hK hH (i := i) (by omega)
        unfold D_str at hq
        refine cl_D_126 (c_D_strengthAt l V S (i) (V (hB 0 + 1) (i)) (by omega) (hK (i) (by omega)).2.2) d_D_lackOf_38 rfl rfl (g_ftM (by decide)) (Nat.le_of_ble_eq_true rfl) (g_pu ?_)
        refine j_isub d_D_lackOf_41 ?_
        refine j_iconstN (k := 0) d_D_lackOf_42 (by decide) ?_
        refine cm_D_227 d_D_lackOf_43 (g_ftM (by decide)) (Nat.le_of_ble_eq_true rfl) ?_
        rw [g_maxs (by omega) (by omega)]
        refine j_iaddN d_D_lackOf_46 ?_
        refine j_istore_n d_D_lackOf_47 rfl ls3i ?_
        refine j_iincN (k := 1) d_D_lackOf_48 lg4 (by decide) ls4i ?_
        refine j_goto (tgt := 5) d_D_lackOf_51 (by decide) ?_
        exact ih (i + 1) _ (by omega) (by rw [hs]; show _ = q_sum i _ + (if _ then _ else _); rw [if_pos h_20]; rfl) (by omega)
set_option maxRecDepth 4000 in
theorem c_D_lackOf {G : g_G} (l : Launch) (V : g_V) (S : g_L) (hn : V 0 1 ≤ 6) (hK : g_K V) (hH : g_H V (hB 0 + 1)) (b x : Nat) (hb : b < 64) (hx : x ≤ 20) : g_C G l y_D_lackOf b_D_lackOf 5 (some .int) 2 [.ref (g_a G (0)), .int (nI (b)), .int (nI (x))] V S (fun r V' S' => r = some (.int (nI (q_lack (V 0 1) (D_str V) b x))) ∧ V' = V ∧ S' = S) := by
  refine g_C.of (lv := [some (.ref (g_a G (0))), some (.int (nI (b))), some (.int (nI (x))), none, none]) (by decide +kernel) rfl rfl rfl (Nat.le_of_ble_eq_true rfl) ?_
  refine j_iconstN (k := 0) d_D_lackOf_0 (by decide) ?_
  refine j_istore_n d_D_lackOf_1 rfl ls3i ?_
  refine j_iconstN (k := 0) d_D_lackOf_2 (by decide) ?_
  refine j_istore d_D_lackOf_3 ls4i ?_
  exact lp_D_lackOf l V S hn hK hH b x hb hx _ 0 0 (by omega) rfl (Nat.lt_succ_self _)
set_option maxRecDepth 4000 in
theorem lp_D_wetBy2 {G : g_G} (l : Launch) (V : g_V) (S : g_L) (hn : V 0 1 ≤ 6) (hd : V (hB 0) 5 < 64) (b : Nat) (hb : b < 64) : ∀ (n : Nat) (k c : Nat) (i : Int32), (g_dn i k) → (k ≤ 5) → (c < 64) → (q_wet (V 0 1) (V (hB 0) 5) b = q_dn (V (hB 0) 5) k c) → k < n → JW G (g_M G l 2 (some .int) (fun r V' S' => r = some (.int (nI (q_wet (V 0 1) (V (hB 0) 5) b))) ∧ V' = V ∧ S' = S)) b_D_wetBy R_D 58 [some (.ref (g_a G (0))), some (.int (nI (b))), some (.int (nI (c))), some (.int (i))] [] V S := by
  intro n
  induction n with
  | zero => intro k c i hi hk hc he hm; exact absurd hm (Nat.not_lt_zero _)
  | succ n ih =>
    intro k c i hi hk hc he hm
    refine j_iload_n (i := 3) d_D_wetBy_58 rfl lg3 ?_
    refine j_if_lt (tgt := 99) d_D_wetBy_59 (by decide) (fun h_59 => ?_) (fun h_59 => ?_)
    ·
      refine j_iload_n (i := 2) d_D_wetBy_99 rfl lg2 ?_
      refine j_iret d_D_wetBy_100 ⟨by rw [he, g_dn_neg hi h_59 (by omega)]; rfl, rfl, rfl⟩
    ·
      obtain ⟨k', rfl, rfl⟩ := g_dn_pos hi h_59
      refine j_iload_n (i := 2) d_D_wetBy_62 rfl lg2 ?_
      refine j_iload_n (i := 3) d_D_wetBy_63 rfl lg3 ?_
      refine j_iconstN (k := 1) d_D_wetBy_64 (by decide) ?_
      refine j_iaddN d_D_wetBy_65 ?_
      refine cl_D_150 (c_D_has l V S (c) (k' + 1) (by omega) (by omega)) d_D_wetBy_66 rfl rfl (g_ftM (by decide)) (Nat.le_of_ble_eq_true rfl) (g_pu ?_)
      refine j_if_eqB (tgt := 93) d_D_wetBy_69 (by decide) (fun h_69 => ?_) (fun h_69 => ?_)
      ·
        refine j_iinc d_D_wetBy_93 lg3 rfl ls3i ?_
        refine j_goto (tgt := 58) d_D_wetBy_96 (by decide) ?_
        exact ih k' _ _ g_dn_dec (by omega) hc (by rw [he]; show q_dn _ k' (if _ then _ else _) = _; rw [if_neg (fun q => by first | exact h_69 q.1 | exact q.2 h_83)]) (by omega)
      ·
        refine j_aload_n (i := 0) d_D_wetBy_72 rfl lg0 ?_
        refine gf_D_29 d_D_wetBy_73 ?_
        refine gf_D_92 (j := 0) (by decide) d_D_wetBy_76 ?_
        refine j_iload_n (i := 3) d_D_wetBy_79 rfl lg3 ?_
        refine cl_D_150 (c_D_has l V S (V (hB 0) 5) (k') (by omega) (by omega)) d_D_wetBy_80 rfl rfl (g_ftM (by decide)) (Nat.le_of_ble_eq_true rfl) (g_pu ?_)
        refine j_if_neB (tgt := 93) d_D_wetBy_83 (by decide) (fun h_83 => ?_) (fun h_83 => ?_)
        ·
          refine j_iinc d_D_wetBy_93 lg3 rfl ls3i ?_
          refine j_goto (tgt := 58) d_D_wetBy_96 (by decide) ?_
          exact ih k' _ _ g_dn_dec (by omega) hc (by rw [he]; show q_dn _ k' (if _ then _ else _) = _; rw [if_neg (fun q => by first | exact h_69 q.1 | exact q.2 h_83)]) (by omega)
        ·
          refine j_iload_n (i := 2) d_D_wetBy_86 rfl lg2 ?_
          refine j_iload_n (i := 3) d_D_wetBy_87 rfl lg3 ?_
          refine cl_D_98 (c_D_bit l V S (k') (by omega)) d_D_wetBy_88 rfl rfl (g_ftM (by decide)) (Nat.le_of_ble_eq_true rfl) (g_pu ?_)
          refine j_iorN d_D_wetBy_91 ?_
          refine j_istore_n d_D_wetBy_92 rfl ls2i ?_
          refine j_iinc d_D_wetBy_93 lg3 rfl ls3i ?_
          refine j_goto (tgt := 58) d_D_wetBy_96 (by decide) ?_
          exact ih k' _ _ g_dn_dec (by omega) (Nat.or_lt_two_pow (n := 6) hc (q_bit_lt (by omega))) (by rw [he]; show q_dn _ k' (if _ then _ else _) = _; rw [if_pos ⟨h_69, h_83⟩]) (by omega)
set_option maxRecDepth 4000 in
theorem lp_D_wetBy1 {G : g_G} (l : Launch) (V : g_V) (S : g_L) (hn : V 0 1 ≤ 6) (hd : V (hB 0) 5 < 64) (b : Nat) (hb : b < 64) : ∀ (n : Nat) (i c : Nat), (i ≤ V 0 1 - 1) → (c = q_up (V (hB 0) 5) i b) → V 0 1 - 1 - i < n → JW G (g_M G l 2 (some .int) (fun r V' S' => r = some (.int (nI (q_wet (V 0 1) (V (hB 0) 5) b))) ∧ V' = V ∧ S' = S)) b_D_wetBy R_D 4 [some (.ref (g_a G (0))), some (.int (nI (b))), some (.int (nI (c))), some (.int (nI (i)))] [] V S := by
  intro n
  induction n with
  | zero => intro i c hi hc hm; exact absurd hm (Nat.not_lt_zero _)
  | succ n ih =>
    intro i c hi hc hm
    have hc6 : c < 64 := by rw [hc]; exact q_up_lt (m := 6) hb (by omega)
    refine j_iload_n (i := 3) d_D_wetBy_4 rfl lg3 ?_
    refine j_aload_n (i := 0) d_D_wetBy_5 rfl lg0 ?_
    refine gf_D_69 d_D_wetBy_6 ?_
    refine j_iconstN (k := 1) d_D_wetBy_9 (by decide) ?_
    refine j_isub d_D_wetBy_10 ?_
    refine j_icmp_ge (tgt := 51) d_D_wetBy_11 (by decide) (fun h_11 => ?_) (fun h_11 => ?_)
    ·
      rw [g_le1 (by omega) (by omega)] at h_11
      refine j_aload_n (i := 0) d_D_wetBy_51 rfl lg0 ?_
      refine gf_D_69 d_D_wetBy_52 ?_
      refine j_iconstN (k := 2) d_D_wetBy_55 (by decide) ?_
      refine j_isub d_D_wetBy_56 ?_
      refine j_istore_n d_D_wetBy_57 rfl ls3i ?_
      exact lp_D_wetBy2 l V S hn hd b hb _ (V 0 1 - 1) _ _ g_dn_2 (by omega) hc6 (by rw [hc, show i = V 0 1 - 1 by omega]; rfl) (Nat.lt_succ_self _)
    ·
      rw [g_le1 (by omega) (by omega)] at h_11
      refine j_iload_n (i := 2) d_D_wetBy_14 rfl lg2 ?_
      refine j_iload_n (i := 3) d_D_wetBy_15 rfl lg3 ?_
      refine cl_D_150 (c_D_has l V S (c) (i) (by omega) (by omega)) d_D_wetBy_16 rfl rfl (g_ftM (by decide)) (Nat.le_of_ble_eq_true rfl) (g_pu ?_)
      refine j_if_eqB (tgt := 45) d_D_wetBy_19 (by decide) (fun h_19 => ?_) (fun h_19 => ?_)
      ·
        refine j_iincN (k := 1) d_D_wetBy_45 lg3 (by decide) ls3i ?_
        refine j_goto (tgt := 4) d_D_wetBy_48 (by decide) ?_
        exact ih (i + 1) _ (by omega) (by rw [hc]; show _ = (if _ then _ else _); rw [hc] at h_19; rw [if_neg (fun q => by first | exact h_19 q.1 | exact q.2 h_33)]) (by omega)
      ·
        refine j_aload_n (i := 0) d_D_wetBy_22 rfl lg0 ?_
        refine gf_D_29 d_D_wetBy_23 ?_
        refine gf_D_92 (j := 0) (by decide) d_D_wetBy_26 ?_
        refine j_iload_n (i := 3) d_D_wetBy_29 rfl lg3 ?_
        refine cl_D_150 (c_D_has l V S (V (hB 0) 5) (i) (by omega) (by omega)) d_D_wetBy_30 rfl rfl (g_ftM (by decide)) (Nat.le_of_ble_eq_true rfl) (g_pu ?_)
        refine j_if_neB (tgt := 45) d_D_wetBy_33 (by decide) (fun h_33 => ?_) (fun h_33 => ?_)
        ·
          refine j_iincN (k := 1) d_D_wetBy_45 lg3 (by decide) ls3i ?_
          refine j_goto (tgt := 4) d_D_wetBy_48 (by decide) ?_
          exact ih (i + 1) _ (by omega) (by rw [hc]; show _ = (if _ then _ else _); rw [hc] at h_19; rw [if_neg (fun q => by first | exact h_19 q.1 | exact q.2 h_33)]) (by omega)
        ·
          refine j_iload_n (i := 2) d_D_wetBy_36 rfl lg2 ?_
          refine j_iload_n (i := 3) d_D_wetBy_37 rfl lg3 ?_
          refine j_iconstN (k := 1) d_D_wetBy_38 (by decide) ?_
          refine j_iaddN d_D_wetBy_39 ?_
          refine cl_D_98 (c_D_bit l V S (i + 1) (by omega)) d_D_wetBy_40 rfl rfl (g_ftM (by decide)) (Nat.le_of_ble_eq_true rfl) (g_pu ?_)
          refine j_iorN d_D_wetBy_43 ?_
          refine j_istore_n d_D_wetBy_44 rfl ls2i ?_
          refine j_iincN (k := 1) d_D_wetBy_45 lg3 (by decide) ls3i ?_
          refine j_goto (tgt := 4) d_D_wetBy_48 (by decide) ?_
          exact ih (i + 1) _ (by omega) (by rw [hc]; show _ = (if _ then _ else _); rw [hc] at h_19; rw [if_pos ⟨h_19, h_33⟩]) (by omega)
set_option maxRecDepth 4000 in
theorem c_D_wetBy {G : g_G} (l : Launch) (V : g_V) (S : g_L) (hn : V 0 1 ≤ 6) (hd : V (hB 0) 5 < 64) (b : Nat) (hb : b < 64) : g_C G l y_D_wetBy b_D_wetBy 4 (some .int) 2 [.ref (g_a G (0)), .int (nI (b))] V S (fun r V' S' => r = some (.int (nI (q_wet (V 0 1) (V (hB 0) 5) b))) ∧ V' = V ∧ S' = S) := by
  refine g_C.of (lv := [some (.ref (g_a G (0))), some (.int (nI (b))), none, none]) (by decide +kernel) rfl rfl rfl (Nat.le_of_ble_eq_true rfl) ?_
  refine j_iload_n (i := 1) d_D_wetBy_0 rfl lg1 ?_
  refine j_istore_n d_D_wetBy_1 rfl ls2i ?_
  refine j_iconstN (k := 0) d_D_wetBy_2 (by decide) ?_
  refine j_istore_n d_D_wetBy_3 rfl ls3i ?_
  exact lp_D_wetBy1 l V S hn hd b hb _ 0 b (by omega) rfl (Nat.lt_succ_self _)
/-- NET of f out of k others, as the machine adds it -/
def q_net (ow : Nat → Nat → Nat) (f : Nat) : Nat → Int32
  | 0 => 0
  | k + 1 => q_net ow f k + (nI (ow k f) - nI (ow f k))
def D_ow (V : g_V) (a b : Nat) : Nat := V (hB 0 + (5 + a)) b
set_option maxRecDepth 4000 in
theorem lp_D_netOf {G : g_G} (l : Launch) (V : g_V) (S : g_L) (hn : V 0 1 ≤ 6) (f : Nat) (hf : f < V 0 1) : ∀ (n : Nat) (i : Nat) (s : Int32), (i ≤ V 0 1) → (s = q_net (D_ow V) f i) → V 0 1 - i < n → JW G (g_M G l 1 (some .int) (fun r V' S' => r = some (.int (q_net (D_ow V) f (V 0 1))) ∧ V' = V ∧ S' = S)) b_D_netOf R_D 4 [some (.ref (g_a G (0))), some (.int (nI (f))), some (.int (s)), some (.int (nI (i)))] [] V S := by
  intro n
  induction n with
  | zero => intro i s hi hs hm; exact absurd hm (Nat.not_lt_zero _)
  | succ n ih =>
    intro i s hi hs hm
    refine j_iload_n (i := 3) d_D_netOf_4 rfl lg3 ?_
    refine j_aload_n (i := 0) d_D_netOf_5 rfl lg0 ?_
    refine gf_D_69 d_D_netOf_6 ?_
    refine j_icmp_geN (tgt := 44) d_D_netOf_9 (by decide) (by omega) (by omega) (fun h_9 => ?_) (fun h_9 => ?_)
    ·
      refine j_iload_n (i := 2) d_D_netOf_44 rfl lg2 ?_
      refine j_iret d_D_netOf_45 ⟨by rw [hs, show i = V 0 1 by omega], rfl, rfl⟩
    ·
      refine j_iload_n (i := 2) d_D_netOf_12 rfl lg2 ?_
      refine j_aload_n (i := 0) d_D_netOf_13 rfl lg0 ?_
      refine gf_D_29 d_D_netOf_14 ?_
      refine gf_D_130 (j := 0) (by decide) d_D_netOf_17 ?_
      refine j_iload_n (i := 3) d_D_netOf_20 rfl lg3 ?_
      refine j_aaldO (j := 0) d_D_netOf_21 (by decide) (by omega) ?_
      refine j_iload_n (i := 1) d_D_netOf_22 rfl lg1 ?_
      refine j_iald d_D_netOf_23 (gI_ho (by decide) (by omega)) (by omega) ?_
      refine j_aload_n (i := 0) d_D_netOf_24 rfl lg0 ?_
      refine gf_D_29 d_D_netOf_25 ?_
      refine gf_D_130 (j := 0) (by decide) d_D_netOf_28 ?_
      refine j_iload_n (i := 1) d_D_netOf_31 rfl lg1 ?_
      refine j_aaldO (j := 0) d_D_netOf_32 (by decide) (by omega) ?_
      refine j_iload_n (i := 3) d_D_netOf_33 rfl lg3 ?_
      refine j_iald d_D_netOf_34 (gI_ho (by decide) (by omega)) (by omega) ?_
      refine j_isub d_D_netOf_35 ?_
      refine j_iadd d_D_netOf_36 ?_
      refine j_istore_n d_D_netOf_37 rfl ls2i ?_
      refine j_iincN (k := 1) d_D_netOf_38 lg3 (by decide) ls3i ?_
      refine j_goto (tgt := 4) d_D_netOf_41 (by decide) ?_
      exact ih (i + 1) _ (by omega) (by rw [hs]; rfl) (by omega)
set_option maxRecDepth 4000 in
theorem c_D_netOf {G : g_G} (l : Launch) (V : g_V) (S : g_L) (hn : V 0 1 ≤ 6) (f : Nat) (hf : f < V 0 1) : g_C G l y_D_netOf b_D_netOf 4 (some .int) 1 [.ref (g_a G (0)), .int (nI (f))] V S (fun r V' S' => r = some (.int (q_net (D_ow V) f (V 0 1))) ∧ V' = V ∧ S' = S) := by
  refine g_C.of (lv := [some (.ref (g_a G (0))), some (.int (nI (f))), none, none]) (by decide +kernel) rfl rfl rfl (Nat.le_of_ble_eq_true rfl) ?_
  refine j_iconstN (k := 0) d_D_netOf_0 (by decide) ?_
  refine j_istore_n d_D_netOf_1 rfl ls2i ?_
  refine j_iconstN (k := 0) d_D_netOf_2 (by decide) ?_
  refine j_istore_n d_D_netOf_3 rfl ls3i ?_
  exact lp_D_netOf l V S hn f hf _ 0 0 (by omega) rfl (Nat.lt_succ_self _)
end
section
/-! The class: rows copied, the text read. -/
section IUS
variable {G : g_G} {X : g_X} {cc : ByteArray} {own : String} {pc : Nat} {lv : List (Option Value)} {st : List Value} {V : g_V} {S : g_L}
theorem j_iushr {x y : Int32} (hd : decode cc pc = .ok (.iushr, 1)) (kk : JW G X cc own (pc + 1) lv (.int ((x.toUInt32 >>> (y.toUInt32 &&& Int32.toUInt32 31)).toInt32) :: st) V S) : JW G X cc own pc lv (.int y :: .int x :: st) V S :=
  fun p e s m args below meth c Q C K H locs ls hl hP hS => lv_iushr C.1 C.2.1 hd rfl (kk p e s m args below meth c Q C K H locs ls hl hP hS)
theorem g_pw {V1 : g_V} (k : JW G X cc own pc lv st V1 S) : ∀ (r : Option Value) (V' : g_V) (S' : g_L), (r = none ∧ V' = V1 ∧ S' = S) → JW G X cc own pc lv (r.toList ++ st) V' S' := by
  rintro _ _ _ ⟨rfl, rfl, rfl⟩
  exact k
end IUS
def g_row (V : g_V) (c : Nat) (f : Nat → Nat) : g_V := fun c' => if c' = c then f else V c'
theorem g_rowS {V : g_V} {c : Nat} {f : Nat → Nat} : g_row V c f c = f := if_pos rfl
theorem g_rowN {V : g_V} {c c' : Nat} {f : Nat → Nat} (h : c' ≠ c) : g_row V c f c' = V c' := if_neg h
def g_cp (V : g_V) (c1 c2 i : Nat) : g_V := g_row V c2 (fun k => if k < i then V c1 k else V c2 k)
theorem g_cp_0 {V : g_V} {c1 c2 : Nat} : g_cp V c1 c2 0 = V := by
  funext c k
  unfold g_cp g_row
  by_cases h : c = c2
  · subst h; simp
  · simp [h]
theorem g_cp_N {V : g_V} {c1 c2 i c : Nat} (h : c ≠ c2) : g_cp V c1 c2 i c = V c := g_rowN h
theorem g_cp_S {V : g_V} {c1 c2 i k : Nat} (h : k < i) : g_cp V c1 c2 i c2 k = V c1 k := by
  unfold g_cp; rw [g_rowS]; exact if_pos h
theorem g_cp_step {V : g_V} {c1 c2 i : Nat} (h : c1 ≠ c2) : g_up (g_cp V c1 c2 i) c2 i (g_cp V c1 c2 i c1 i) = g_cp V c1 c2 (i + 1) := by
  funext c k
  rw [g_cp_N h]
  unfold g_up g_cp g_row
  by_cases hc : c = c2
  · subst hc
    by_cases hk : k = i
    · subst hk; simp
    · simp only [hk, and_false, if_false, if_true]
      by_cases hl : k < i
      · rw [if_pos hl, if_pos (by omega)]
      · rw [if_neg hl, if_neg (by omega)]
  · simp [hc]
set_option maxRecDepth 4000 in
theorem lp_D_copyRow {G : g_G} (l : Launch) (V : g_V) (S : g_L) (c1 c2 : Nat) (h1 : g_I c1 6) (h2 : g_I c2 6) (hne : c1 ≠ c2) : ∀ (n : Nat) (i : Nat), (i ≤ 6) → 6 - i < n → JW G (g_M G l 1 none (fun r V' S' => r = none ∧ V' = g_cp V c1 c2 6 ∧ S' = S)) b_D_copyRow R_D 2 [some (.ref (g_a G (c1))), some (.ref (g_a G (c2))), some (.int (nI (i)))] [] (g_cp V c1 c2 i) S := by
  intro n
  induction n with
  | zero => intro i hi hm; exact absurd hm (Nat.not_lt_zero _)
  | succ n ih =>
    intro i hi hm
    refine j_iload_n (i := 2) d_D_copyRow_2 rfl lg2 ?_
    refine j_aload_n (i := 0) d_D_copyRow_3 rfl lg0 ?_
    refine j_alen d_D_copyRow_4 h1 ?_
    refine j_icmp_geN (tgt := 26) d_D_copyRow_5 (by decide) (by omega) (by omega) (fun h_5 => ?_) (fun h_5 => ?_)
    ·
      refine j_vret d_D_copyRow_26 ⟨rfl, by rw [show i = 6 by omega], rfl⟩
    ·
      refine j_iload_n (i := 2) d_D_copyRow_8 rfl lg2 ?_
      refine j_aload_n (i := 1) d_D_copyRow_9 rfl lg1 ?_
      refine j_alen d_D_copyRow_10 h2 ?_
      refine j_icmp_geN (tgt := 26) d_D_copyRow_11 (by decide) (by omega) (by omega) (fun h_11 => ?_) (fun h_11 => ?_)
      ·
        refine j_vret d_D_copyRow_26 ⟨rfl, by rw [show i = 6 by omega], rfl⟩
      ·
        refine j_aload_n (i := 1) d_D_copyRow_14 rfl lg1 ?_
        refine j_iload_n (i := 2) d_D_copyRow_15 rfl lg2 ?_
        refine j_aload_n (i := 0) d_D_copyRow_16 rfl lg0 ?_
        refine j_iload_n (i := 2) d_D_copyRow_17 rfl lg2 ?_
        refine j_iald d_D_copyRow_18 h1 (by omega) ?_
        refine j_iast d_D_copyRow_19 h2 (by omega) ?_
        refine j_iincN (k := 1) d_D_copyRow_20 lg2 (by decide) ls2r ?_
        refine j_goto (tgt := 2) d_D_copyRow_23 (by decide) ?_
        rw [g_cp_step hne]
        exact ih (i + 1) (by omega) (by omega)
set_option maxRecDepth 4000 in
theorem c_D_copyRow {G : g_G} (l : Launch) (V : g_V) (S : g_L) (c1 c2 : Nat) (h1 : g_I c1 6) (h2 : g_I c2 6) (hne : c1 ≠ c2) : g_C G l y_D_copyRow b_D_copyRow 3 none 1 [.ref (g_a G (c1)), .ref (g_a G (c2))] V S (fun r V' S' => r = none ∧ V' = g_cp V c1 c2 6 ∧ S' = S) := by
  refine g_C.of (lv := [some (.ref (g_a G (c1))), some (.ref (g_a G (c2))), none]) (by decide +kernel) rfl rfl rfl (Nat.le_of_ble_eq_true rfl) ?_
  refine j_iconstN (k := 0) d_D_copyRow_0 (by decide) ?_
  refine j_istore_n d_D_copyRow_1 rfl ls2r ?_
  have h := lp_D_copyRow l V S c1 c2 h1 h2 hne _ 0 (by omega) (Nat.lt_succ_self _) (G := G)
  rw [g_cp_0] at h
  exact h
def g_fl (V : g_V) (c i : Nat) : g_V := g_row V c (fun k => if k < i then 0 else V c k)
theorem g_fl_0 {V : g_V} {c : Nat} : g_fl V c 0 = V := by
  funext c' k
  unfold g_fl g_row
  by_cases h : c' = c
  · subst h; simp
  · simp [h]
theorem g_fl_N {V : g_V} {c i c' : Nat} (h : c' ≠ c) : g_fl V c i c' = V c' := g_rowN h
theorem g_fl_S {V : g_V} {c i k : Nat} (h : k < i) : g_fl V c i c k = 0 := by
  unfold g_fl; rw [g_rowS]; exact if_pos h
theorem g_fl_step {V : g_V} {c i : Nat} : g_up (g_fl V c i) c i 0 = g_fl V c (i + 1) := by
  funext c' k
  unfold g_up g_fl g_row
  by_cases hc : c' = c
  · subst hc
    by_cases hk : k = i
    · subst hk; simp
    · simp only [hk, and_false, if_false, if_true]
      by_cases hl : k < i
      · rw [if_pos hl, if_pos (by omega)]
      · rw [if_neg hl, if_neg (by omega)]
  · simp [hc]
set_option maxRecDepth 4000 in
theorem lp_A_fill {G : g_G} (l : Launch) (V : g_V) (S : g_L) (c1 : Nat) (h1 : g_I c1 6) : ∀ (n : Nat) (i : Nat), (i ≤ 6) → 6 - i < n → JW G (g_M G l 1 none (fun r V' S' => r = none ∧ V' = g_fl V c1 6 ∧ S' = S)) b_A_fill "java/util/Arrays" 5 [some (.ref (g_a G (c1))), some (.int (nI (0))), some (.int (nI (i))), some (.int (nI (6)))] [] (g_fl V c1 i) S := by
  intro n
  induction n with
  | zero => intro i hi hm; exact absurd hm (Nat.not_lt_zero _)
  | succ n ih =>
    intro i hi hm
    refine j_iload_n (i := 2) d_A_fill_5 rfl lg2 ?_
    refine j_iload_n (i := 3) d_A_fill_6 rfl lg3 ?_
    refine j_icmp_geN (tgt := 20) d_A_fill_7 (by decide) (by omega) (by omega) (fun h_7 => ?_) (fun h_7 => ?_)
    ·
      refine j_vret d_A_fill_20 ⟨rfl, by rw [show i = 6 by omega], rfl⟩
    ·
      refine j_aload_n (i := 0) d_A_fill_10 rfl lg0 ?_
      refine j_iload_n (i := 2) d_A_fill_11 rfl lg2 ?_
      refine j_iload_n (i := 1) d_A_fill_12 rfl lg1 ?_
      refine j_iast d_A_fill_13 h1 (by omega) ?_
      refine j_iincN (k := 1) d_A_fill_14 lg2 (by decide) ls2i ?_
      refine j_goto (tgt := 5) d_A_fill_17 (by decide) ?_
      rw [g_fl_step]
      exact ih (i + 1) (by omega) (by omega)
set_option maxRecDepth 4000 in
theorem c_A_fill {G : g_G} (l : Launch) (V : g_V) (S : g_L) (c1 : Nat) (h1 : g_I c1 6) : g_C G l y_A_fill b_A_fill 4 none 1 [.ref (g_a G (c1)), .int (nI (0))] V S (fun r V' S' => r = none ∧ V' = g_fl V c1 6 ∧ S' = S) := by
  refine g_C.of (lv := [some (.ref (g_a G (c1))), some (.int (nI (0))), none, none]) (by decide +kernel) rfl rfl rfl (Nat.le_of_ble_eq_true rfl) ?_
  refine j_iconstN (k := 0) d_A_fill_0 (by decide) ?_
  refine j_istore_n d_A_fill_1 rfl ls2i ?_
  refine j_aload_n (i := 0) d_A_fill_2 rfl lg0 ?_
  refine j_alen d_A_fill_3 h1 ?_
  refine j_istore_n d_A_fill_4 rfl ls3i ?_
  have h := lp_A_fill l V S c1 h1 _ 0 (by omega) (Nat.lt_succ_self _) (G := G)
  rw [g_fl_0] at h
  exact h
/-- the Held a of V is the Held b of V2 -/
def g_hq (V : g_V) (a : Nat) (V2 : g_V) (b : Nat) : Prop :=
  (∀ r k, 1 ≤ r → r < 11 → r ≠ 4 → k < 6 → V (hB a + r) k = V2 (hB b + r) k) ∧ V (hB a) 4 = V2 (hB b) 4 ∧ V (hB a) 5 = V2 (hB b) 5 ∧ V (hB a) 6 = V2 (hB b) 6
/-- nothing but the Held a has changed -/
def g_off (V V' : g_V) (a : Nat) : Prop := ∀ c, (c < hB a ∨ hB a + 11 ≤ c) → V' c = V c
theorem hB_ne {a b r q : Nat} (h : a ≠ b) (hr : r < 11) (hq : q < 11) : hB a + r ≠ hB b + q := by unfold hB; omega
theorem hB_out {a b q : Nat} (h : b ≠ a) (hq : q < 11) : hB b + q < hB a ∨ hB a + 11 ≤ hB b + q := by unfold hB; omega
theorem hB_ne0 {a b q : Nat} (h : a ≠ b) (hq : q < 11) : hB a ≠ hB b + q := by unfold hB; omega
theorem hB_self {a r q : Nat} (h : r ≠ q) : hB a + r ≠ hB a + q := by omega
set_option maxRecDepth 4000 in
theorem lp_H_takeOver {G : g_G} (l : Launch) (V : g_V) (S : g_L) (a b : Nat) (ha : a < 17) (hb : b < 17) (hab : a ≠ b) : ∀ (n : Nat) (V1 : g_V) (i : Nat), (i ≤ 6) → (∀ c, (c < hB a ∨ hB a + 11 ≤ c) → V1 c = V c) → (∀ r k, 1 ≤ r → (r ≤ 3 ∨ (5 ≤ r ∧ r < 5 + i)) → k < 6 → V1 (hB a + r) k = V (hB b + r) k) → 6 - i < n → JW G (g_M G l 2 none (fun r V' S' => r = none ∧ g_hq V' a V b ∧ g_off V V' a ∧ S' = S)) b_H_takeOver R_H 35 [some (.ref (g_a G (hB a))), some (.ref (g_a G (hB b))), some (.int (nI (i)))] [] V1 S := by
  intro n
  induction n with
  | zero => intro V1 i hi ho hh hm; exact absurd hm (Nat.not_lt_zero _)
  | succ n ih =>
    intro V1 i hi ho hh hm
    refine j_iload_n (i := 2) d_H_takeOver_35 rfl lg2 ?_
    refine j_bipushN (k := 6) d_H_takeOver_36 (by decide) ?_
    refine j_icmp_geN (tgt := 62) d_H_takeOver_38 (by decide) (by omega) (by omega) (fun h_38 => ?_) (fun h_38 => ?_)
    ·
      have hba := Ne.symm hab
      have hbo : V1 (hB b) = V (hB b) := ho _ (hB_out (q := 0) hba (by omega))
      have hne : hB b ≠ hB a := hB_ne0 (q := 0) hba (by omega)
      refine j_aload_n (i := 0) d_H_takeOver_62 rfl lg0 ?_
      refine j_aload_n (i := 1) d_H_takeOver_63 rfl lg1 ?_
      refine gf_H_32 (j := b) hb d_H_takeOver_64 ?_
      refine pf_H_32 (j := a) ha d_H_takeOver_67 ?_
      refine j_aload_n (i := 0) d_H_takeOver_70 rfl lg0 ?_
      refine j_aload_n (i := 1) d_H_takeOver_71 rfl lg1 ?_
      refine gf_H_36 (j := b) hb d_H_takeOver_72 ?_
      refine pf_H_36 (j := a) ha d_H_takeOver_75 ?_
      refine j_aload_n (i := 0) d_H_takeOver_78 rfl lg0 ?_
      refine j_aload_n (i := 1) d_H_takeOver_79 rfl lg1 ?_
      refine gf_H_39 (j := b) hb d_H_takeOver_80 ?_
      refine pf_H_39 (j := a) ha d_H_takeOver_83 ?_
      refine j_vret d_H_takeOver_86 ⟨rfl, ⟨fun r k h1 h2 h4 hk => by rw [g_upN (by omega), g_upN (by omega), g_upN (by omega)]; exact hh r k h1 (by omega) hk, by rw [g_upK (by decide), g_upK (by decide), g_upS, hbo], by rw [g_upK (by decide), g_upS, g_upN hne, hbo], by rw [g_upS, g_upN hne, g_upN hne, hbo]⟩, fun c hc => by
        have hca : c ≠ hB a := by omega
        rw [g_up_ne hca, g_up_ne hca, g_up_ne hca]; exact ho c hc, rfl⟩
    ·
      refine j_aload_n (i := 1) d_H_takeOver_41 rfl lg1 ?_
      refine gf_H_23 (j := b) hb d_H_takeOver_42 ?_
      refine j_iload_n (i := 2) d_H_takeOver_45 rfl lg2 ?_
      refine j_aaldO (j := b) d_H_takeOver_46 hb (by omega) ?_
      refine j_aload_n (i := 0) d_H_takeOver_47 rfl lg0 ?_
      refine gf_H_23 (j := a) ha d_H_takeOver_48 ?_
      refine j_iload_n (i := 2) d_H_takeOver_51 rfl lg2 ?_
      refine j_aaldO (j := a) d_H_takeOver_52 ha (by omega) ?_
      refine cl_H_42 (c_D_copyRow l V1 S (hB b + (5 + i)) (hB a + (5 + i)) (gI_ho hb (by omega)) (gI_ho ha (by omega)) (by first | exact hB_ne (Ne.symm hab) (by omega) (by omega) | exact fun q => by omega)) d_H_takeOver_53 rfl rfl (g_ftM (by decide)) (Nat.le_of_ble_eq_true rfl) (g_pw ?_)
      refine j_iincN (k := 1) d_H_takeOver_56 lg2 (by decide) ls2r ?_
      refine j_goto (tgt := 35) d_H_takeOver_59 (by decide) ?_
      have hba := Ne.symm hab
      have e1 : ∀ r, r < 11 → V1 (hB b + r) = V (hB b + r) := fun r hr => ho _ (hB_out hba hr)
      refine ih (g_cp V1 (hB b + (5 + i)) (hB a + (5 + i)) 6) (i + 1) (by omega) (fun c hc => ?_) (fun r k h1 h2 hk => ?_) (by omega)
      · rw [g_cp_N (by omega)]; exact ho c hc
      · by_cases hr : r = 5 + i
        · subst hr
          rw [g_cp_S hk, e1 _ (by omega)]
        · rw [g_cp_N (by omega)]; exact hh r k h1 (by omega) hk
set_option maxRecDepth 4000 in
theorem c_H_takeOver {G : g_G} (l : Launch) (V : g_V) (S : g_L) (a b : Nat) (ha : a < 17) (hb : b < 17) (hab : a ≠ b) : g_C G l y_H_takeOver b_H_takeOver 3 none 2 [.ref (g_a G (hB a)), .ref (g_a G (hB b))] V S (fun r V' S' => r = none ∧ g_hq V' a V b ∧ g_off V V' a ∧ S' = S) := by
  refine g_C.of (lv := [some (.ref (g_a G (hB a))), some (.ref (g_a G (hB b))), none]) (by decide +kernel) rfl rfl rfl (Nat.le_of_ble_eq_true rfl) ?_
  refine j_aload_n (i := 1) d_H_takeOver_0 rfl lg1 ?_
  refine gf_H_9 (j := b) hb d_H_takeOver_1 ?_
  refine j_aload_n (i := 0) d_H_takeOver_4 rfl lg0 ?_
  refine gf_H_9 (j := a) ha d_H_takeOver_5 ?_
  refine cl_H_42 (c_D_copyRow l V S (hB b + 1) (hB a + 1) (gI_h1 hb) (gI_h1 ha) (by first | exact hB_ne (Ne.symm hab) (by omega) (by omega) | exact fun q => by omega)) d_H_takeOver_8 rfl rfl (g_ftM (by decide)) (Nat.le_of_ble_eq_true rfl) (g_pw ?_)
  refine j_aload_n (i := 1) d_H_takeOver_11 rfl lg1 ?_
  refine gf_H_15 (j := b) hb d_H_takeOver_12 ?_
  refine j_aload_n (i := 0) d_H_takeOver_15 rfl lg0 ?_
  refine gf_H_15 (j := a) ha d_H_takeOver_16 ?_
  refine cl_H_42 (c_D_copyRow l (g_cp V (hB b + 1) (hB a + 1) 6) S (hB b + 2) (hB a + 2) (gI_h2 hb) (gI_h2 ha) (by first | exact hB_ne (Ne.symm hab) (by omega) (by omega) | exact fun q => by omega)) d_H_takeOver_19 rfl rfl (g_ftM (by decide)) (Nat.le_of_ble_eq_true rfl) (g_pw ?_)
  refine j_aload_n (i := 1) d_H_takeOver_22 rfl lg1 ?_
  refine gf_H_18 (j := b) hb d_H_takeOver_23 ?_
  refine j_aload_n (i := 0) d_H_takeOver_26 rfl lg0 ?_
  refine gf_H_18 (j := a) ha d_H_takeOver_27 ?_
  refine cl_H_42 (c_D_copyRow l (g_cp (g_cp V (hB b + 1) (hB a + 1) 6) (hB b + 2) (hB a + 2) 6) S (hB b + 3) (hB a + 3) (gI_h3 hb) (gI_h3 ha) (by first | exact hB_ne (Ne.symm hab) (by omega) (by omega) | exact fun q => by omega)) d_H_takeOver_30 rfl rfl (g_ftM (by decide)) (Nat.le_of_ble_eq_true rfl) (g_pw ?_)
  refine j_iconstN (k := 0) d_H_takeOver_33 (by decide) ?_
  refine j_istore_n d_H_takeOver_34 rfl ls2r ?_
  have hba := Ne.symm hab
  refine lp_H_takeOver l V S a b ha hb hab _ _ 0 (by omega) (fun c hc => ?_) (fun r k h1 h2 hk => ?_) (Nat.lt_succ_self _)
  · rw [g_cp_N (by omega), g_cp_N (by omega), g_cp_N (by omega)]
  · rcases (by omega : r = 1 ∨ r = 2 ∨ r = 3) with rfl | rfl | rfl
    · rw [g_cp_N (by omega), g_cp_N (by omega), g_cp_S hk]
    · rw [g_cp_N (by omega), g_cp_S hk, g_cp_N (hB_ne hba (by omega) (by omega))]
    · rw [g_cp_S hk, g_cp_N (hB_ne hba (by omega) (by omega)), g_cp_N (hB_ne hba (by omega) (by omega))]
set_option maxRecDepth 4000 in
theorem lp_H_clear {G : g_G} (l : Launch) (V : g_V) (S : g_L)  : ∀ (n : Nat) (V1 : g_V) (i : Nat), (i ≤ 6) → (∀ c, (c < hB 0 ∨ hB 0 + 11 ≤ c) → V1 c = V c) → (∀ r k, 1 ≤ r → (r ≤ 3 ∨ (5 ≤ r ∧ r < 5 + i)) → k < 6 → V1 (hB 0 + r) k = 0) → 6 - i < n → JW G (g_M G l 2 none (fun r V' S' => r = none ∧ (∀ q k, 1 ≤ q → q < 11 → q ≠ 4 → k < 6 → V' (hB 0 + q) k = 0) ∧ (V' (hB 0) 4 = 0 ∧ V' (hB 0) 5 = 0 ∧ V' (hB 0) 6 = 0) ∧ g_off V V' 0 ∧ S' = S)) b_H_clear R_H 26 [some (.ref (g_a G (hB 0))), some (.int (nI (i)))] [] V1 S := by
  intro n
  induction n with
  | zero => intro V1 i hi ho hh hm; exact absurd hm (Nat.not_lt_zero _)
  | succ n ih =>
    intro V1 i hi ho hh hm
    refine j_iload_n (i := 1) d_H_clear_26 rfl lg1 ?_
    refine j_bipushN (k := 6) d_H_clear_27 (by decide) ?_
    refine j_icmp_geN (tgt := 48) d_H_clear_29 (by decide) (by omega) (by omega) (fun h_29 => ?_) (fun h_29 => ?_)
    ·
      refine j_aload_n (i := 0) d_H_clear_48 rfl lg0 ?_
      refine j_iconstN (k := 0) d_H_clear_49 (by decide) ?_
      refine pf_H_32 (j := 0) (by decide) d_H_clear_50 ?_
      refine j_aload_n (i := 0) d_H_clear_53 rfl lg0 ?_
      refine j_iconstN (k := 0) d_H_clear_54 (by decide) ?_
      refine pf_H_36 (j := 0) (by decide) d_H_clear_55 ?_
      refine j_aload_n (i := 0) d_H_clear_58 rfl lg0 ?_
      refine j_iconstN (k := 0) d_H_clear_59 (by decide) ?_
      refine pf_H_39 (j := 0) (by decide) d_H_clear_60 ?_
      refine j_vret d_H_clear_63 ⟨rfl, fun r k h1 h2 h4 hk => by rw [g_upN (by omega), g_upN (by omega), g_upN (by omega)]; exact hh r k h1 (by omega) hk, ⟨by rw [g_upK (by decide), g_upK (by decide), g_upS], by rw [g_upK (by decide), g_upS], by rw [g_upS]⟩, fun c hc => by
        have hca : c ≠ hB 0 := by omega
        rw [g_up_ne hca, g_up_ne hca, g_up_ne hca]; exact ho c hc, rfl⟩
    ·
      refine j_aload_n (i := 0) d_H_clear_32 rfl lg0 ?_
      refine gf_H_23 (j := 0) (by decide) d_H_clear_33 ?_
      refine j_iload_n (i := 1) d_H_clear_36 rfl lg1 ?_
      refine j_aaldO (j := 0) d_H_clear_37 (by decide) (by omega) ?_
      refine j_iconstN (k := 0) d_H_clear_38 (by decide) ?_
      refine cl_H_26 (c_A_fill l V1 S (hB 0 + (5 + i)) (gI_ho (by decide) (by omega))) d_H_clear_39 rfl rfl (g_ftM (by decide)) (Nat.le_of_ble_eq_true rfl) (g_pw ?_)
      refine j_iincN (k := 1) d_H_clear_42 lg1 (by decide) ls1r ?_
      refine j_goto (tgt := 26) d_H_clear_45 (by decide) ?_
      refine ih (g_fl V1 (hB 0 + (5 + i)) 6) (i + 1) (by omega) (fun c hc => ?_) (fun r k h1 h2 hk => ?_) (by omega)
      · rw [g_fl_N (by omega)]; exact ho c hc
      · by_cases hr : r = 5 + i
        · subst hr
          rw [g_fl_S hk]
        · rw [g_fl_N (by omega)]; exact hh r k h1 (by omega) hk
set_option maxRecDepth 4000 in
theorem c_H_clear {G : g_G} (l : Launch) (V : g_V) (S : g_L)  : g_C G l y_H_clear b_H_clear 2 none 2 [.ref (g_a G (hB 0))] V S (fun r V' S' => r = none ∧ (∀ q k, 1 ≤ q → q < 11 → q ≠ 4 → k < 6 → V' (hB 0 + q) k = 0) ∧ (V' (hB 0) 4 = 0 ∧ V' (hB 0) 5 = 0 ∧ V' (hB 0) 6 = 0) ∧ g_off V V' 0 ∧ S' = S) := by
  refine g_C.of (lv := [some (.ref (g_a G (hB 0))), none]) (by decide +kernel) rfl rfl rfl (Nat.le_of_ble_eq_true rfl) ?_
  refine j_aload_n (i := 0) d_H_clear_0 rfl lg0 ?_
  refine gf_H_9 (j := 0) (by decide) d_H_clear_1 ?_
  refine j_iconstN (k := 0) d_H_clear_4 (by decide) ?_
  refine cl_H_26 (c_A_fill l V S (hB 0 + 1) (gI_h1 (by decide))) d_H_clear_5 rfl rfl (g_ftM (by decide)) (Nat.le_of_ble_eq_true rfl) (g_pw ?_)
  refine j_aload_n (i := 0) d_H_clear_8 rfl lg0 ?_
  refine gf_H_15 (j := 0) (by decide) d_H_clear_9 ?_
  refine j_iconstN (k := 0) d_H_clear_12 (by decide) ?_
  refine cl_H_26 (c_A_fill l (g_fl V (hB 0 + 1) 6) S (hB 0 + 2) (gI_h2 (by decide))) d_H_clear_13 rfl rfl (g_ftM (by decide)) (Nat.le_of_ble_eq_true rfl) (g_pw ?_)
  refine j_aload_n (i := 0) d_H_clear_16 rfl lg0 ?_
  refine gf_H_18 (j := 0) (by decide) d_H_clear_17 ?_
  refine j_iconstN (k := 0) d_H_clear_20 (by decide) ?_
  refine cl_H_26 (c_A_fill l (g_fl (g_fl V (hB 0 + 1) 6) (hB 0 + 2) 6) S (hB 0 + 3) (gI_h3 (by decide))) d_H_clear_21 rfl rfl (g_ftM (by decide)) (Nat.le_of_ble_eq_true rfl) (g_pw ?_)
  refine j_iconstN (k := 0) d_H_clear_24 (by decide) ?_
  refine j_istore_n d_H_clear_25 rfl ls1r ?_
  refine lp_H_clear l V S _ _ 0 (by omega) (fun c hc => ?_) (fun r k h1 h2 hk => ?_) (Nat.lt_succ_self _)
  · rw [g_fl_N (by omega), g_fl_N (by omega), g_fl_N (by omega)]
  · rcases (by omega : r = 1 ∨ r = 2 ∨ r = 3) with rfl | rfl | rfl
    · rw [g_fl_N (by omega), g_fl_N (by omega), g_fl_S hk]
    · rw [g_fl_N (by omega), g_fl_S hk]
    · rw [g_fl_S hk]
end
section
/-! The class: a storm over a row of heights, what is remembered, the text. -/
theorem j_eqv {G : g_G} {X : g_X} {cc : ByteArray} {own : String} {pc : Nat} {lv : List (Option Value)} {st : List Value} {V : g_V} {S : g_L} {a b : Nat} (h : a = b) (k : JW G X cc own pc lv (.int (nI b) :: st) V S) : JW G X cc own pc lv (.int (nI a) :: st) V S := by
  rw [h]; exact k
/-- the heights of row c behind a storm of x, up to i -/
def g_sk (V : g_V) (c x i : Nat) : g_V := g_row V c (fun k => if k < i then q_bh (q_str (V 5 k) (V 3 k) (V c k)) (V c k) x else V c k)
theorem g_sk_N {V : g_V} {c x i c' : Nat} (h : c' ≠ c) : g_sk V c x i c' = V c' := g_rowN h
theorem g_sk_S {V : g_V} {c x i : Nat} : g_sk V c x i c i = V c i := by
  unfold g_sk; rw [g_rowS]; exact if_neg (Nat.lt_irrefl i)
theorem g_sk_0 {V : g_V} {c x : Nat} : g_sk V c x 0 = V := by
  funext c' k
  unfold g_sk g_row
  by_cases h : c' = c
  · subst h; simp
  · simp [h]
theorem g_sk_step {V : g_V} {c x i : Nat} : g_up (g_sk V c x i) c i (q_bh (q_str (V 5 i) (V 3 i) (V c i)) (V c i) x) = g_sk V c x (i + 1) := by
  funext c' k
  unfold g_up g_sk g_row
  by_cases hc : c' = c
  · subst hc
    by_cases hk : k = i
    · subst hk; simp
    · simp only [hk, and_false, if_false, if_true]
      by_cases hl : k < i
      · rw [if_pos hl, if_pos (by omega)]
      · rw [if_neg hl, if_neg (by omega)]
  · simp [hc]
def D_strc (V : g_V) (c i : Nat) : Nat := q_str (V 5 i) (V 3 i) (V c i)
set_option maxRecDepth 4000 in
theorem lp_D_strike {G : g_G} (l : Launch) (V : g_V) (S : g_L) (hn : V 0 1 ≤ 6) (hK : g_K V) (c x : Nat) (hc : g_I c 6) (h0 : c ≠ 0) (h3 : c ≠ 3) (h4 : c ≠ 4) (h5 : c ≠ 5) (hH : g_H V c) (hx : x ≤ 20) : ∀ (n : Nat) (i b : Nat), (i ≤ V 0 1) → (i ≤ 6) → (b = q_brk i (D_strc V c) x) → V 0 1 - i < n → JW G (g_M G l 3 (some .int) (fun r V' S' => r = some (.int (nI (q_brk (V 0 1) (D_strc V c) x))) ∧ V' = g_sk V c x (V 0 1) ∧ S' = S)) b_D_strike R_D 5 [some (.ref (g_a G (0))), some (.ref (g_a G (c))), some (.int (nI (x))), some (.int (nI (b))), some (.int (nI (i)))] [] (g_sk V c x i) S := by
  intro n
  induction n with
  | zero => intro i b hi hi6 hb hm; exact absurd hm (Nat.not_lt_zero _)
  | succ n ih =>
    intro i b hi hi6 hb hm
    have e0 : g_sk V c x i 0 = V 0 := g_sk_N (Ne.symm h0)
    have e3 : g_sk V c x i 3 = V 3 := g_sk_N (Ne.symm h3)
    have e4 : g_sk V c x i 4 = V 4 := g_sk_N (Ne.symm h4)
    have e5 : g_sk V c x i 5 = V 5 := g_sk_N (Ne.symm h5)
    have ec : g_sk V c x i c i = V c i := g_sk_S
    have hK2 : g_K (g_sk V c x i) := by unfold g_K; rw [e3, e4, e5]; exact hK
    refine j_iload d_D_strike_5 lg4 ?_
    refine j_aload_n (i := 0) d_D_strike_7 rfl lg0 ?_
    refine gf_D_69 d_D_strike_8 ?_
    rw [e0]
    refine j_icmp_geN (tgt := 64) d_D_strike_11 (by decide) (by omega) (by omega) (fun h_11 => ?_) (fun h_11 => ?_)
    ·
      refine j_iload_n (i := 3) d_D_strike_64 rfl lg3 ?_
      refine j_iret d_D_strike_65 ⟨by rw [hb, show i = V 0 1 by omega], by rw [show i = V 0 1 by omega], rfl⟩
    ·
      refine j_iload d_D_strike_14 lg4 ?_
      refine j_aload_n (i := 1) d_D_strike_16 rfl lg1 ?_
      refine j_alen d_D_strike_17 hc ?_
      refine j_icmp_geN (tgt := 64) d_D_strike_18 (by decide) (by omega) (by omega) (fun h_18 => ?_) (fun h_18 => ?_)
      ·
        refine j_iload_n (i := 3) d_D_strike_64 rfl lg3 ?_
        refine j_iret d_D_strike_65 ⟨by rw [hb, show i = V 0 1 by omega], by rw [show i = V 0 1 by omega], rfl⟩
      ·
        refine j_iload_n (i := 2) d_D_strike_21 rfl lg2 ?_
        refine j_aload_n (i := 0) d_D_strike_22 rfl lg0 ?_
        refine j_iload d_D_strike_23 lg4 ?_
        refine j_aload_n (i := 1) d_D_strike_25 rfl lg1 ?_
        refine j_iload d_D_strike_26 lg4 ?_
        refine j_iald d_D_strike_28 hc (by omega) ?_
        rw [ec]
        have hci := hH i (by omega)
        have hq := q_str_lt (k := V 5 i) (g := V 3 i) (h := V c i) (hK i (by omega)).1 (by omega)
        refine cl_D_126 (c_D_strengthAt l (g_sk V c x i) S i (V c i) (by omega) (hK2 i (by omega)).2.2) d_D_strike_29 rfl rfl (g_ftM (by decide)) (Nat.le_of_ble_eq_true rfl) (g_pu ?_)
        rw [e3, e5]
        refine j_icmp_leN (tgt := 43) d_D_strike_32 (by decide) (by omega) (by omega) (fun h_32 => ?_) (fun h_32 => ?_)
        ·
          refine j_aload_n (i := 1) d_D_strike_43 rfl lg1 ?_
          refine j_iload d_D_strike_44 lg4 ?_
          refine j_aload_n (i := 0) d_D_strike_46 rfl lg0 ?_
          refine j_iload d_D_strike_47 lg4 ?_
          refine j_aload_n (i := 1) d_D_strike_49 rfl lg1 ?_
          refine j_iload d_D_strike_50 lg4 ?_
          refine j_iald d_D_strike_52 hc (by omega) ?_
          rw [ec]
          refine j_iload_n (i := 2) d_D_strike_53 rfl lg2 ?_
          refine cl_D_232 (c_D_heightBehind l (g_sk V c x i) S hK2 i (V c i) x (by omega) (by omega) (by omega)) d_D_strike_54 rfl rfl (g_ftM (by decide)) (Nat.le_of_ble_eq_true rfl) (g_pu ?_)
          rw [e3, e5]
          refine j_iast d_D_strike_57 hc (by omega) ?_
          refine j_iincN (k := 1) d_D_strike_58 lg4 (by decide) ls4i ?_
          refine j_goto (tgt := 5) d_D_strike_61 (by decide) ?_
          rw [g_sk_step]
          exact ih (i + 1) _ (by omega) (by omega) (by rw [hb]; show _ = q_or i _ ||| (if _ then _ else _); rw [if_neg (show ¬ D_strc V c i < x from Nat.not_lt.mpr h_32), Nat.or_zero]; rfl) (by omega)
        ·
          refine j_iload_n (i := 3) d_D_strike_35 rfl lg3 ?_
          refine j_iload d_D_strike_36 lg4 ?_
          refine cl_D_98 (c_D_bit l (g_sk V c x i) S (i) (by omega)) d_D_strike_38 rfl rfl (g_ftM (by decide)) (Nat.le_of_ble_eq_true rfl) (g_pu ?_)
          refine j_iorN d_D_strike_41 ?_
          refine j_istore_n d_D_strike_42 rfl ls3i ?_
          refine j_aload_n (i := 1) d_D_strike_43 rfl lg1 ?_
          refine j_iload d_D_strike_44 lg4 ?_
          refine j_aload_n (i := 0) d_D_strike_46 rfl lg0 ?_
          refine j_iload d_D_strike_47 lg4 ?_
          refine j_aload_n (i := 1) d_D_strike_49 rfl lg1 ?_
          refine j_iload d_D_strike_50 lg4 ?_
          refine j_iald d_D_strike_52 hc (by omega) ?_
          rw [ec]
          refine j_iload_n (i := 2) d_D_strike_53 rfl lg2 ?_
          refine cl_D_232 (c_D_heightBehind l (g_sk V c x i) S hK2 i (V c i) x (by omega) (by omega) (by omega)) d_D_strike_54 rfl rfl (g_ftM (by decide)) (Nat.le_of_ble_eq_true rfl) (g_pu ?_)
          rw [e3, e5]
          refine j_iast d_D_strike_57 hc (by omega) ?_
          refine j_iincN (k := 1) d_D_strike_58 lg4 (by decide) ls4i ?_
          refine j_goto (tgt := 5) d_D_strike_61 (by decide) ?_
          rw [g_sk_step]
          exact ih (i + 1) _ (by omega) (by omega) (by rw [hb]; show _ = q_or i _ ||| (if _ then _ else _); rw [if_pos (show D_strc V c i < x from h_32)]; rfl) (by omega)
set_option maxRecDepth 4000 in
theorem c_D_strike {G : g_G} (l : Launch) (V : g_V) (S : g_L) (hn : V 0 1 ≤ 6) (hK : g_K V) (c x : Nat) (hc : g_I c 6) (h0 : c ≠ 0) (h3 : c ≠ 3) (h4 : c ≠ 4) (h5 : c ≠ 5) (hH : g_H V c) (hx : x ≤ 20) : g_C G l y_D_strike b_D_strike 5 (some .int) 3 [.ref (g_a G (0)), .ref (g_a G (c)), .int (nI (x))] V S (fun r V' S' => r = some (.int (nI (q_brk (V 0 1) (D_strc V c) x))) ∧ V' = g_sk V c x (V 0 1) ∧ S' = S) := by
  refine g_C.of (lv := [some (.ref (g_a G (0))), some (.ref (g_a G (c))), some (.int (nI (x))), none, none]) (by decide +kernel) rfl rfl rfl (Nat.le_of_ble_eq_true rfl) ?_
  refine j_iconstN (k := 0) d_D_strike_0 (by decide) ?_
  refine j_istore_n d_D_strike_1 rfl ls3i ?_
  refine j_iconstN (k := 0) d_D_strike_2 (by decide) ?_
  refine j_istore d_D_strike_3 ls4i ?_
  have h := lp_D_strike (G := G) l V S hn hK c x hc h0 h3 h4 h5 hH hx _ 0 0 (by omega) (by omega) rfl (Nat.lt_succ_self _)
  rw [g_sk_0] at h
  exact h
/-- what remember does: the ring's place p, the Held 1 + p -/
def g_remF (V : g_V) : Nat := if V 0 8 = 14 then (V 0 7 + 1) % 14 else V 0 7
def g_remA (V : g_V) : Nat := if V 0 8 = 14 then 13 else V 0 8
def g_remP (V : g_V) : Nat := (g_remF V + g_remA V) % 14
def g_rem (V V' : g_V) : Prop := (V' 0 7 = g_remF V ∧ V' 0 8 = g_remA V + 1 ∧ ∀ k, k ≠ 7 → k ≠ 8 → V' 0 k = V 0 k) ∧ g_hq V' (1 + g_remP V) V 0 ∧ ∀ c, c ≠ 0 → (c < hB (1 + g_remP V) ∨ hB (1 + g_remP V) + 11 ≤ c) → V' c = V c
theorem g_hq_up {V V1 V2 : g_V} {a b : Nat} (hv : ∀ c, c ≠ 0 → V1 c = V c) (h : g_hq V2 a V1 b) : g_hq V2 a V b := by
  have e : ∀ r, V1 (hB b + r) = V (hB b + r) := fun r => hv _ (by unfold hB; omega)
  obtain ⟨h1, h2, h3, h4⟩ := h
  have e0 : V1 (hB b) = V (hB b) := e 0
  exact ⟨fun r k a b c d => by rw [← e]; exact h1 r k a b c d, by rw [← e0]; exact h2, by rw [← e0]; exact h3, by rw [← e0]; exact h4⟩
theorem g_rem_of {V V1 V2 : g_V} {F A P : Nat} (h : (¬ V 0 8 = 14 ∧ V1 = V ∧ (F = V 0 7 ∧ A = V 0 8)) ∨ (V 0 8 = 14 ∧ V1 = g_up (g_up V 0 7 ((V 0 7 + 1) % 14)) 0 8 (14 - 1) ∧ (F = (V 0 7 + 1) % 14 ∧ A = 13))) (hP : P = (F + A) % 14)
    (hq : g_hq V2 (1 + P) V1 0) (ho : g_off V1 V2 (1 + P)) : g_rem V (g_up V2 0 8 (A + 1)) := by
  have hz : V2 0 = V1 0 := ho 0 (Or.inl (by unfold hB; omega))
  have hne : hB (1 + P) ≠ 0 := by unfold hB; omega
  have hne2 : ∀ r, hB (1 + P) + r ≠ 0 := fun r => by unfold hB; omega
  have eF : g_remF V = F := by
    unfold g_remF
    rcases h with ⟨a, -, b, -⟩ | ⟨a, -, b, -⟩
    · rw [if_neg a, b]
    · rw [if_pos a, b]
  have eA : g_remA V = A := by
    unfold g_remA
    rcases h with ⟨a, -, -, b⟩ | ⟨a, -, -, b⟩
    · rw [if_neg a, b]
    · rw [if_pos a, b]
  have eP : g_remP V = P := by unfold g_remP; rw [eF, eA, hP]
  have hv : ∀ c, c ≠ 0 → V1 c = V c := fun c hc => by
    rcases h with ⟨-, e, -⟩ | ⟨-, e, -⟩
    · rw [e]
    · rw [e, g_up_ne hc, g_up_ne hc]
  have h7 : V1 0 7 = F := by
    rcases h with ⟨-, e, b, -⟩ | ⟨-, e, b, -⟩
    · rw [e, b]
    · rw [e, g_upK (by decide), g_upS, b]
  have hk : ∀ k, k ≠ 7 → k ≠ 8 → V1 0 k = V 0 k := fun k k7 k8 => by
    rcases h with ⟨-, e, -⟩ | ⟨-, e, -⟩
    · rw [e]
    · rw [e, g_upK k8, g_upK k7]
  obtain ⟨q1, q2, q3, q4⟩ := g_hq_up hv hq
  refine ⟨⟨?_, ?_, fun k k7 k8 => ?_⟩, ?_, fun c hc hh => ?_⟩
  · rw [g_upK (by decide), hz, h7, eF]
  · rw [g_upS, eA]
  · rw [g_upK k8, hz]; exact hk k k7 k8
  · rw [eP]
    exact ⟨fun r k a b c d => by rw [g_upN (hne2 r)]; exact q1 r k a b c d, by rw [g_upN hne]; exact q2, by rw [g_upN hne]; exact q3, by rw [g_upN hne]; exact q4⟩
  · rw [eP] at hh
    rw [g_up_ne hc, ho c hh, hv c hc]
set_option maxRecDepth 4000 in
theorem c_D_remember {G : g_G} (l : Launch) (V : g_V) (S : g_L) (hF : V 0 7 < 14) (hA : V 0 8 ≤ 14) : g_C G l y_D_remember b_D_remember 1 none 3 [.ref (g_a G (0))] V S (fun r V' S' => r = none ∧ g_rem V V' ∧ S' = S) := by
  refine g_C.of (lv := [some (.ref (g_a G (0)))]) (by decide +kernel) rfl rfl rfl (Nat.le_of_ble_eq_true rfl) ?_
  refine j_aload_n (i := 0) d_D_remember_0 rfl lg0 ?_
  refine gf_D_72 d_D_remember_1 ?_
  refine j_bipushN (k := 14) d_D_remember_4 (by decide) ?_
  refine j_icmp_neN (tgt := 28) d_D_remember_6 (by decide) (by omega) (by omega) (fun h_6 => ?_) (fun h_6 => ?_)
  ·
    refine j_aload_n (i := 0) d_D_remember_28 rfl lg0 ?_
    refine gf_D_33 d_D_remember_29 ?_
    refine j_aload_n (i := 0) d_D_remember_32 rfl lg0 ?_
    refine j_aload_n (i := 0) d_D_remember_33 rfl lg0 ?_
    refine gf_D_72 d_D_remember_34 ?_
    refine cl_D_154 (c_D_actRow l V S (by first | omega | (rw [g_upK (by decide), g_upS]; omega)) (V 0 8) (by omega)) d_D_remember_37 rfl rfl (g_ftM (by decide)) (Nat.le_of_ble_eq_true rfl) (g_pu ?_)
    have hP := Nat.mod_lt (V 0 7 + V 0 8) (show 0 < 14 by decide)
    obtain ⟨P, eP⟩ : ∃ P, P = (V 0 7 + V 0 8) % 14 := ⟨_, rfl⟩
    rw [← eP]
    rw [← eP] at hP
    have hA8 : V 0 8 = V 0 8 := rfl
    refine j_aald6 d_D_remember_40 (by omega) ?_
    refine j_aload_n (i := 0) d_D_remember_41 rfl lg0 ?_
    refine gf_D_29 d_D_remember_42 ?_
    refine cl_D_157 (j := (1 + (P))) (by omega) (c_H_takeOver l V S ((1 + (P))) 0 (by omega) (by decide) (by omega)) d_D_remember_45 rfl rfl (g_ftM (by decide)) (Nat.le_of_ble_eq_true rfl) ?_
    rintro _ V2 S2 ⟨rfl, hq, ho, hs⟩
    rw [hs]
    have hz : V2 0 8 = V 0 8 := (congrFun (ho 0 (Or.inl (by unfold hB; omega))) 8).trans hA8
    refine j_aload_n (i := 0) d_D_remember_48 rfl lg0 ?_
    refine j_dup d_D_remember_49 rfl ?_
    refine gf_D_72 d_D_remember_50 ?_
    rw [hz]
    refine j_iconstN (k := 1) d_D_remember_53 (by decide) ?_
    refine j_iaddN d_D_remember_54 ?_
    refine pf_D_72 d_D_remember_55 ?_
    refine j_vret d_D_remember_58 ⟨rfl, g_rem_of (Or.inl ⟨h_6, rfl, rfl, rfl⟩) eP hq ho, rfl⟩
  ·
    have hF2 : (V 0 7 + 1) % 14 < 14 := Nat.mod_lt _ (by decide)
    refine j_aload_n (i := 0) d_D_remember_9 rfl lg0 ?_
    refine j_aload_n (i := 0) d_D_remember_10 rfl lg0 ?_
    refine j_iconstN (k := 1) d_D_remember_11 (by decide) ?_
    refine cl_D_154 (c_D_actRow l V S (by first | omega | (rw [g_upK (by decide), g_upS]; omega)) (1) (by omega)) d_D_remember_12 rfl rfl (g_ftM (by decide)) (Nat.le_of_ble_eq_true rfl) (g_pu ?_)
    refine pf_D_224 d_D_remember_15 ?_
    refine j_aload_n (i := 0) d_D_remember_18 rfl lg0 ?_
    refine j_dup d_D_remember_19 rfl ?_
    refine gf_D_72 d_D_remember_20 ?_
    refine j_eqv (b := V 0 8) (by rw [g_upK (by decide)]) ?_
    refine j_iconstN (k := 1) d_D_remember_23 (by decide) ?_
    refine j_isubN d_D_remember_24 (by omega) ?_
    refine pf_D_72 d_D_remember_25 ?_
    refine j_aload_n (i := 0) d_D_remember_28 rfl lg0 ?_
    refine gf_D_33 d_D_remember_29 ?_
    refine j_aload_n (i := 0) d_D_remember_32 rfl lg0 ?_
    refine j_aload_n (i := 0) d_D_remember_33 rfl lg0 ?_
    refine gf_D_72 d_D_remember_34 ?_
    refine j_eqv (b := (V 0 8) - 1) (by rw [g_upS]) ?_
    refine cl_D_154 (c_D_actRow l (g_up (g_up V 0 7 ((V 0 7 + (1)) % 14)) 0 8 ((V 0 8) - 1)) S (by first | omega | (rw [g_upK (by decide), g_upS]; omega)) ((V 0 8) - 1) (by omega)) d_D_remember_37 rfl rfl (g_ftM (by decide)) (Nat.le_of_ble_eq_true rfl) (g_pu ?_)
    rw [show (g_up (g_up V 0 7 ((V 0 7 + (1)) % 14)) 0 8 ((V 0 8) - 1)) 0 7 = (V 0 7 + 1) % 14 by rw [g_upK (by decide), g_upS]]
    obtain ⟨P, eP⟩ : ∃ P, P = ((V 0 7 + 1) % 14 + (V 0 8 - 1)) % 14 := ⟨_, rfl⟩
    have hP : P < 14 := by rw [eP]; exact Nat.mod_lt _ (by decide)
    rw [← eP]
    have hA8 : (g_up (g_up V 0 7 ((V 0 7 + (1)) % 14)) 0 8 ((V 0 8) - 1)) 0 8 = V 0 8 - 1 := by rw [g_upS]
    refine j_aald6 d_D_remember_40 (by omega) ?_
    refine j_aload_n (i := 0) d_D_remember_41 rfl lg0 ?_
    refine gf_D_29 d_D_remember_42 ?_
    refine cl_D_157 (j := (1 + (P))) (by omega) (c_H_takeOver l (g_up (g_up V 0 7 ((V 0 7 + (1)) % 14)) 0 8 ((V 0 8) - 1)) S ((1 + (P))) 0 (by omega) (by decide) (by omega)) d_D_remember_45 rfl rfl (g_ftM (by decide)) (Nat.le_of_ble_eq_true rfl) ?_
    rintro _ V2 S2 ⟨rfl, hq, ho, hs⟩
    rw [hs]
    have hz : V2 0 8 = V 0 8 - 1 := (congrFun (ho 0 (Or.inl (by unfold hB; omega))) 8).trans hA8
    refine j_aload_n (i := 0) d_D_remember_48 rfl lg0 ?_
    refine j_dup d_D_remember_49 rfl ?_
    refine gf_D_72 d_D_remember_50 ?_
    rw [hz]
    refine j_iconstN (k := 1) d_D_remember_53 (by decide) ?_
    refine j_iaddN d_D_remember_54 ?_
    refine pf_D_72 d_D_remember_55 ?_
    refine j_vret d_D_remember_58 ⟨rfl, g_rem_of (F := (V 0 7 + 1) % 14) (A := V 0 8 - 1) (Or.inr ⟨h_6, by rw [h_6], rfl, by rw [h_6]⟩) eP hq ho, rfl⟩
end
section
/-! The class: the text and its fault. -/
section FGT
variable {G : g_G} {X : g_X} {cc : ByteArray} {own : String} {pc : Nat} {lv : List (Option Value)} {st : List Value} {V : g_V} {S : g_L}
/-- a local forgotten -/
theorem j_fg (k : Nat) (kk : JW G X cc own pc (lv.set k none) st V S) : JW G X cc own pc lv st V S := by
  intro p e s m args below meth c Q C K H locs ls hl hP hS
  refine kk p e s m args below meth c Q C K H locs ls ⟨⟨hl.1.1, hl.1.2.1, fun q hq => ?_⟩, by rw [List.length_set]; exact hl.2⟩ hP hS
  obtain ⟨i, h1, h2⟩ := (g_ix_mem _ 0 q).mp hq
  refine hl.1.2.2 q ((g_ix_mem lv 0 q).mpr ⟨i, h1, ?_⟩)
  by_cases hk : i = k
  · subst hk
    rw [List.getElem?_set] at h2
    split at h2
    · split at h2
      · cases h2
      · cases h2
    · exact absurd rfl ‹¬ _›
  · rw [List.getElem?_set_ne (Ne.symm hk)] at h2; exact h2
theorem j_ldcw {i : Nat} {v : Int32} (hd : decode cc pc = .ok (.ldc_w i, 3)) (hw : Cond.constant own i v ∈ lw_use) (kk : JW G X cc own (pc + 3) lv (.int v :: st) V S) : JW G X cc own pc lv st V S :=
  fun p e s m args below meth c Q C K H locs ls hl hP hS => lv_ldcw C.1 C.2.1 C.2.2.1 (C.2.2.2.1 _ hw) hd (kk p e s m args below meth c Q C K H locs ls hl hP hS)
end FGT
def q_let (n : Nat) (L : Nat → Nat) (p : Nat) : Int32 := if p < n then nI (L p) else -1
theorem q_let_t {n p : Nat} {L : Nat → Nat} (h : p < n) : q_let n L p = nI (L p) := if_pos h
theorem q_let_f {n p : Nat} {L : Nat → Nat} (h : ¬ p < n) : q_let n L p = -1 := if_neg h
abbrev q_dig (n : Nat) (L : Nat → Nat) (p : Nat) : Prop := p < n ∧ 48 ≤ L p ∧ L p ≤ 57
def q_fig (n : Nat) (L : Nat → Nat) (p : Nat) : Int32 := if q_dig n L p then nI (L p - 48) else -1
theorem q_fig_t {n p : Nat} {L : Nat → Nat} (h : q_dig n L p) : q_fig n L p = nI (L p - 48) := if_pos h
theorem q_fig_f {n p : Nat} {L : Nat → Nat} (h : ¬ q_dig n L p) : q_fig n L p = -1 := if_neg h
abbrev q_okf (n : Nat) (L : Nat → Nat) (p g : Nat) : Prop := p < n ∧ 48 ≤ L p ∧ L p ≤ 48 + g
/-- how many of a farm's figures are right from p on -/
def q_rf (n : Nat) (L : Nat → Nat) (p : Nat) : Nat → Nat → Nat
  | 0, i => i
  | m + 1, i => if q_okf n L (p + i) (g_great i) then q_rf n L p m (i + 1) else i
theorem q_rf_t {n p i : Nat} {L : Nat → Nat} (hi : i < 5) (h : q_okf n L (p + i) (g_great i)) : q_rf n L p (5 - i) i = q_rf n L p (5 - (i + 1)) (i + 1) := by
  rw [show 5 - i = (5 - (i + 1)) + 1 by omega]; exact if_pos h
theorem q_rf_f {n p i : Nat} {L : Nat → Nat} (hi : i < 5) (h : ¬ q_okf n L (p + i) (g_great i)) : q_rf n L p (5 - i) i = i := by
  rw [show 5 - i = (5 - (i + 1)) + 1 by omega]; exact if_neg h
theorem g_great_le {i : Nat} : g_great i ≤ 9 := by unfold g_great; split <;> omega
theorem q_rf_le {n p : Nat} {L : Nat → Nat} : ∀ m i, q_rf n L p m i ≤ i + m
  | 0, i => Nat.le_refl _
  | m + 1, i => by
    show (if _ then _ else _) ≤ _
    split
    · have := q_rf_le (n := n) (p := p) (L := L) m (i + 1); omega
    · omega
def q_bc (x : Nat) : Nat := q_sum 6 (fun i => if x.testBit i = true then 1 else 0)
theorem q_bc_le {x : Nat} : q_bc x ≤ 6 := q_sum_le (m := 1) (n := 6) (fun i _ => by
  show (if x.testBit i = true then 1 else 0) ≤ 1
  split <;> omega)
theorem q_bc_lt {x : Nat} : q_bc x < 2 ^ 31 := Nat.lt_of_le_of_lt q_bc_le (by decide)
def g_T (V : g_V) : Prop := V 1 1 ≤ 48 ∧ ∀ i, i < 48 → V 2 i ≤ 255
set_option maxRecDepth 4000 in
theorem c_S_letterAt {G : g_G} (l : Launch) (V : g_V) (S : g_L) (hT : g_T V) (p : Nat) (hp : p < 1000) : g_C G l y_S_letterAt b_S_letterAt 3 (some .int) 1 [.ref (g_a G (1)), .int (nI (p))] V S (fun r V' S' => r = some (.int (q_let (V 1 1) (V 2) p)) ∧ V' = V ∧ S' = S) := by
  refine g_C.of (lv := [some (.ref (g_a G (1))), some (.int (nI (p))), none]) (by decide +kernel) rfl rfl rfl (Nat.le_of_ble_eq_true rfl) ?_
  have hl := hT.1
  refine j_iload_n (i := 1) d_S_letterAt_0 rfl lg1 ?_
  refine j_if_lt (tgt := 25) d_S_letterAt_1 (by decide) (fun h => absurd h (nI_pos (by omega))) (fun _ => ?_)
  refine j_iload_n (i := 1) d_S_letterAt_4 rfl lg1 ?_
  refine j_aload_n (i := 0) d_S_letterAt_5 rfl lg0 ?_
  refine gf_S_15 d_S_letterAt_6 ?_
  refine j_icmp_geN (tgt := 25) d_S_letterAt_9 (by decide) (by omega) (by omega) (fun h_9 => ?_) (fun h_9 => ?_)
  ·
    refine j_iconstN (k := 0) d_S_letterAt_25 (by decide) ?_
    refine j_istore_n d_S_letterAt_26 rfl ls2i ?_
    refine j_iload_n (i := 2) d_S_letterAt_27 rfl lg2 ?_
    refine j_if_eqN (tgt := 40) d_S_letterAt_28 (by decide) (by omega) (fun _ => ?_) (fun h => absurd h (by decide))
    refine j_iconst (v := -1) d_S_letterAt_40 (by decide) ?_
    refine j_iret d_S_letterAt_41 ⟨by rw [q_let_f (by omega)], rfl, rfl⟩
  ·
    refine j_iload_n (i := 1) d_S_letterAt_12 rfl lg1 ?_
    refine j_aload_n (i := 0) d_S_letterAt_13 rfl lg0 ?_
    refine gf_S_9 d_S_letterAt_14 ?_
    refine j_alen d_S_letterAt_17 gI_2 ?_
    refine j_icmp_geN (tgt := 25) d_S_letterAt_18 (by decide) (by omega) (by omega) (fun h_18 => ?_) (fun h_18 => ?_)
    ·
      refine j_iconstN (k := 0) d_S_letterAt_25 (by decide) ?_
      refine j_istore_n d_S_letterAt_26 rfl ls2i ?_
      refine j_iload_n (i := 2) d_S_letterAt_27 rfl lg2 ?_
      refine j_if_eqN (tgt := 40) d_S_letterAt_28 (by decide) (by omega) (fun _ => ?_) (fun h => absurd h (by decide))
      refine j_iconst (v := -1) d_S_letterAt_40 (by decide) ?_
      refine j_iret d_S_letterAt_41 ⟨by rw [q_let_f (by omega)], rfl, rfl⟩
    ·
      refine j_iconstN (k := 1) d_S_letterAt_21 (by decide) ?_
      refine j_goto (tgt := 26) d_S_letterAt_22 (by decide) ?_
      refine j_istore_n d_S_letterAt_26 rfl ls2i ?_
      refine j_iload_n (i := 2) d_S_letterAt_27 rfl lg2 ?_
      refine j_if_eqN (tgt := 40) d_S_letterAt_28 (by decide) (by omega) (fun h => absurd h (by decide)) (fun _ => ?_)
      refine j_aload_n (i := 0) d_S_letterAt_31 rfl lg0 ?_
      refine gf_S_9 d_S_letterAt_32 ?_
      refine j_iload_n (i := 1) d_S_letterAt_35 rfl lg1 ?_
      refine j_iald d_S_letterAt_36 gI_2 (by omega) ?_
      refine j_goto (tgt := 41) d_S_letterAt_37 (by decide) ?_
      refine j_iret d_S_letterAt_41 ⟨by rw [q_let_t (by omega)], rfl, rfl⟩
set_option maxRecDepth 4000 in
theorem c_S_figureAt {G : g_G} (l : Launch) (V : g_V) (S : g_L) (hT : g_T V) (p : Nat) (hp : p < 1000) : g_C G l y_S_figureAt b_S_figureAt 3 (some .int) 2 [.ref (g_a G (1)), .int (nI (p))] V S (fun r V' S' => r = some (.int (q_fig (V 1 1) (V 2) p)) ∧ V' = V ∧ S' = S) := by
  refine g_C.of (lv := [some (.ref (g_a G (1))), some (.int (nI (p))), none]) (by decide +kernel) rfl rfl rfl (Nat.le_of_ble_eq_true rfl) ?_
  have hl := hT.1
  refine j_aload_n (i := 0) d_S_figureAt_0 rfl lg0 ?_
  refine j_iload_n (i := 1) d_S_figureAt_1 rfl lg1 ?_
  refine cl_S_19 (c_S_letterAt l V S hT (p) (by omega)) d_S_figureAt_2 rfl rfl (g_ftM (by decide)) (Nat.le_of_ble_eq_true rfl) (g_pu ?_)
  by_cases hpn : p < V 1 1
  ·
    rw [q_let_t hpn]
    have h255 := hT.2 p (by omega)
    refine j_istore_n d_S_figureAt_5 rfl ls2i ?_
    refine j_iload_n (i := 2) d_S_figureAt_6 rfl lg2 ?_
    refine j_bipushN (k := 48) d_S_figureAt_7 (by decide) ?_
    refine j_icmp_ltN (tgt := 25) d_S_figureAt_9 (by decide) (by omega) (by omega) (fun h_9 => ?_) (fun h_9 => ?_)
    ·
      refine j_iconst (v := -1) d_S_figureAt_25 (by decide) ?_
      refine j_iret d_S_figureAt_26 ⟨by rw [q_fig_f (fun q => by have q1 := q.1; have q2 := q.2.1; have q3 := q.2.2; omega)], rfl, rfl⟩
    ·
      refine j_iload_n (i := 2) d_S_figureAt_12 rfl lg2 ?_
      refine j_bipushN (k := 57) d_S_figureAt_13 (by decide) ?_
      refine j_icmp_gtN (tgt := 25) d_S_figureAt_15 (by decide) (by omega) (by omega) (fun h_15 => ?_) (fun h_15 => ?_)
      ·
        refine j_iconst (v := -1) d_S_figureAt_25 (by decide) ?_
        refine j_iret d_S_figureAt_26 ⟨by rw [q_fig_f (fun q => by have q1 := q.1; have q2 := q.2.1; have q3 := q.2.2; omega)], rfl, rfl⟩
      ·
        refine j_iload_n (i := 2) d_S_figureAt_18 rfl lg2 ?_
        refine j_bipushN (k := 48) d_S_figureAt_19 (by decide) ?_
        refine j_isubN d_S_figureAt_21 (by omega) ?_
        refine j_goto (tgt := 26) d_S_figureAt_22 (by decide) ?_
        refine j_iret d_S_figureAt_26 ⟨by rw [q_fig_t ⟨hpn, by omega, by omega⟩], rfl, rfl⟩
  ·
    rw [q_let_f hpn]
    refine j_istore_n d_S_figureAt_5 rfl ls2i ?_
    refine j_iload_n (i := 2) d_S_figureAt_6 rfl lg2 ?_
    refine j_bipushN (k := 48) d_S_figureAt_7 (by decide) ?_
    refine j_icmp_lt (tgt := 25) d_S_figureAt_9 (by decide) (fun h_9 => ?_) (fun h_9 => ?_)
    ·
      refine j_iconst (v := -1) d_S_figureAt_25 (by decide) ?_
      refine j_iret d_S_figureAt_26 ⟨by rw [q_fig_f (fun q => by have q1 := q.1; have q2 := q.2.1; have q3 := q.2.2; omega)], rfl, rfl⟩
    ·
      exact absurd (by decide) h_9
set_option maxRecDepth 4000 in
theorem lp_S_rightFigures {G : g_G} (l : Launch) (V : g_V) (S : g_L) (hT : g_T V) (p : Nat) (hp : p < 900) : ∀ (n : Nat) (i : Nat), (i ≤ 5) → (q_rf (V 1 1) (V 2) p 5 0 = q_rf (V 1 1) (V 2) p (5 - i) i) → 5 - i < n → JW G (g_M G l 3 (some .int) (fun r V' S' => r = some (.int (nI (q_rf (V 1 1) (V 2) p 5 0))) ∧ V' = V ∧ S' = S)) b_S_rightFigures R_S 2 [some (.ref (g_a G (1))), some (.int (nI (p))), some (.int (nI (i))), none] [] V S := by
  intro n
  induction n with
  | zero => intro i hi he hm; exact absurd hm (Nat.not_lt_zero _)
  | succ n ih =>
    intro i hi he hm
    have hl := hT.1
    have hg := g_great_le (i := i)
    refine j_iload_n (i := 2) d_S_rightFigures_2 rfl lg2 ?_
    refine j_getsGN d_S_rightFigures_3 gs_S_23 ?_
    refine j_alenG d_S_rightFigures_6 ?_
    refine j_icmp_geN (tgt := 39) d_S_rightFigures_7 (by decide) (by omega) (by omega) (fun h_7 => ?_) (fun h_7 => ?_)
    ·
      refine j_getsGN d_S_rightFigures_39 gs_S_23 ?_
      refine j_alenG d_S_rightFigures_42 ?_
      refine j_iret d_S_rightFigures_43 ⟨by rw [he, show i = 5 by omega]; rfl, rfl, rfl⟩
    ·
      refine j_aload_n (i := 0) d_S_rightFigures_10 rfl lg0 ?_
      refine j_iload_n (i := 1) d_S_rightFigures_11 rfl lg1 ?_
      refine j_iload_n (i := 2) d_S_rightFigures_12 rfl lg2 ?_
      refine j_iaddN d_S_rightFigures_13 ?_
      refine cl_S_26 (c_S_figureAt l V S hT (p + i) (by omega)) d_S_rightFigures_14 rfl rfl (g_ftM (by decide)) (Nat.le_of_ble_eq_true rfl) (g_pu ?_)
      by_cases hd : q_dig (V 1 1) (V 2) (p + i)
      ·
        have hd2 := hd.2
        rw [q_fig_t hd]
        refine j_istore_n d_S_rightFigures_17 rfl ls3i ?_
        refine j_iload_n (i := 3) d_S_rightFigures_18 rfl lg3 ?_
        refine j_if_lt (tgt := 31) d_S_rightFigures_19 (by decide) (fun h => absurd h (nI_pos (by omega))) (fun _ => ?_)
        refine j_iload_n (i := 3) d_S_rightFigures_22 rfl lg3 ?_
        refine j_getsGN d_S_rightFigures_23 gs_S_23 ?_
        refine j_iload_n (i := 2) d_S_rightFigures_26 rfl lg2 ?_
        refine j_tG d_S_rightFigures_27 (by omega) ?_
        refine j_icmp_leN (tgt := 33) d_S_rightFigures_28 (by decide) (by omega) (by omega) (fun h_28 => ?_) (fun h_28 => ?_)
        ·
          refine j_iincN (k := 1) d_S_rightFigures_33 lg2 (by decide) ls2i ?_
          refine j_goto (tgt := 2) d_S_rightFigures_36 (by decide) ?_
          exact j_fg 3 (ih (i + 1) (by omega) (by rw [he, q_rf_t (by omega) ⟨hd.1, hd.2.1, by omega⟩]) (by omega))
        ·
          refine j_iload_n (i := 2) d_S_rightFigures_31 rfl lg2 ?_
          refine j_iret d_S_rightFigures_32 ⟨by rw [he, q_rf_f (by omega) (fun q => by have := q.2.2; omega)], rfl, rfl⟩
      ·
        rw [q_fig_f hd]
        refine j_istore_n d_S_rightFigures_17 rfl ls3i ?_
        refine j_iload_n (i := 3) d_S_rightFigures_18 rfl lg3 ?_
        refine j_if_lt (tgt := 31) d_S_rightFigures_19 (by decide) (fun h_19 => ?_) (fun h_19 => ?_)
        ·
          refine j_iload_n (i := 2) d_S_rightFigures_31 rfl lg2 ?_
          refine j_iret d_S_rightFigures_32 ⟨by rw [he, q_rf_f (by omega) (fun q => hd ⟨q.1, q.2.1, by have := q.2.2; omega⟩)], rfl, rfl⟩
        ·
          exact absurd (by decide) h_19
set_option maxRecDepth 4000 in
theorem c_S_rightFigures {G : g_G} (l : Launch) (V : g_V) (S : g_L) (hT : g_T V) (p : Nat) (hp : p < 900) : g_C G l y_S_rightFigures b_S_rightFigures 4 (some .int) 3 [.ref (g_a G (1)), .int (nI (p))] V S (fun r V' S' => r = some (.int (nI (q_rf (V 1 1) (V 2) p 5 0))) ∧ V' = V ∧ S' = S) := by
  refine g_C.of (lv := [some (.ref (g_a G (1))), some (.int (nI (p))), none, none]) (by decide +kernel) rfl rfl rfl (Nat.le_of_ble_eq_true rfl) ?_
  refine j_iconstN (k := 0) d_S_rightFigures_0 (by decide) ?_
  refine j_istore_n d_S_rightFigures_1 rfl ls2i ?_
  exact lp_S_rightFigures l V S hT p hp _ 0 (by omega) rfl (Nat.lt_succ_self _)
set_option maxRecDepth 10000 in
theorem g_bc : ∀ x : Nat, x < 64 → ((((((((nI x) - ((((nI x).toUInt32 >>> ((nI (1)).toUInt32 &&& Int32.toUInt32 31)).toInt32) &&& (nI (1431655765)))) &&& (nI (858993459))) + (((((nI x) - ((((nI x).toUInt32 >>> ((nI (1)).toUInt32 &&& Int32.toUInt32 31)).toInt32) &&& (nI (1431655765)))).toUInt32 >>> ((nI (2)).toUInt32 &&& Int32.toUInt32 31)).toInt32) &&& (nI (858993459)))) + ((((((nI x) - ((((nI x).toUInt32 >>> ((nI (1)).toUInt32 &&& Int32.toUInt32 31)).toInt32) &&& (nI (1431655765)))) &&& (nI (858993459))) + (((((nI x) - ((((nI x).toUInt32 >>> ((nI (1)).toUInt32 &&& Int32.toUInt32 31)).toInt32) &&& (nI (1431655765)))).toUInt32 >>> ((nI (2)).toUInt32 &&& Int32.toUInt32 31)).toInt32) &&& (nI (858993459)))).toUInt32 >>> ((nI (4)).toUInt32 &&& Int32.toUInt32 31)).toInt32)) &&& (nI (252645135))) + ((((((((nI x) - ((((nI x).toUInt32 >>> ((nI (1)).toUInt32 &&& Int32.toUInt32 31)).toInt32) &&& (nI (1431655765)))) &&& (nI (858993459))) + (((((nI x) - ((((nI x).toUInt32 >>> ((nI (1)).toUInt32 &&& Int32.toUInt32 31)).toInt32) &&& (nI (1431655765)))).toUInt32 >>> ((nI (2)).toUInt32 &&& Int32.toUInt32 31)).toInt32) &&& (nI (858993459)))) + ((((((nI x) - ((((nI x).toUInt32 >>> ((nI (1)).toUInt32 &&& Int32.toUInt32 31)).toInt32) &&& (nI (1431655765)))) &&& (nI (858993459))) + (((((nI x) - ((((nI x).toUInt32 >>> ((nI (1)).toUInt32 &&& Int32.toUInt32 31)).toInt32) &&& (nI (1431655765)))).toUInt32 >>> ((nI (2)).toUInt32 &&& Int32.toUInt32 31)).toInt32) &&& (nI (858993459)))).toUInt32 >>> ((nI (4)).toUInt32 &&& Int32.toUInt32 31)).toInt32)) &&& (nI (252645135))).toUInt32 >>> ((nI (8)).toUInt32 &&& Int32.toUInt32 31)).toInt32)) + (((((((((nI x) - ((((nI x).toUInt32 >>> ((nI (1)).toUInt32 &&& Int32.toUInt32 31)).toInt32) &&& (nI (1431655765)))) &&& (nI (858993459))) + (((((nI x) - ((((nI x).toUInt32 >>> ((nI (1)).toUInt32 &&& Int32.toUInt32 31)).toInt32) &&& (nI (1431655765)))).toUInt32 >>> ((nI (2)).toUInt32 &&& Int32.toUInt32 31)).toInt32) &&& (nI (858993459)))) + ((((((nI x) - ((((nI x).toUInt32 >>> ((nI (1)).toUInt32 &&& Int32.toUInt32 31)).toInt32) &&& (nI (1431655765)))) &&& (nI (858993459))) + (((((nI x) - ((((nI x).toUInt32 >>> ((nI (1)).toUInt32 &&& Int32.toUInt32 31)).toInt32) &&& (nI (1431655765)))).toUInt32 >>> ((nI (2)).toUInt32 &&& Int32.toUInt32 31)).toInt32) &&& (nI (858993459)))).toUInt32 >>> ((nI (4)).toUInt32 &&& Int32.toUInt32 31)).toInt32)) &&& (nI (252645135))) + ((((((((nI x) - ((((nI x).toUInt32 >>> ((nI (1)).toUInt32 &&& Int32.toUInt32 31)).toInt32) &&& (nI (1431655765)))) &&& (nI (858993459))) + (((((nI x) - ((((nI x).toUInt32 >>> ((nI (1)).toUInt32 &&& Int32.toUInt32 31)).toInt32) &&& (nI (1431655765)))).toUInt32 >>> ((nI (2)).toUInt32 &&& Int32.toUInt32 31)).toInt32) &&& (nI (858993459)))) + ((((((nI x) - ((((nI x).toUInt32 >>> ((nI (1)).toUInt32 &&& Int32.toUInt32 31)).toInt32) &&& (nI (1431655765)))) &&& (nI (858993459))) + (((((nI x) - ((((nI x).toUInt32 >>> ((nI (1)).toUInt32 &&& Int32.toUInt32 31)).toInt32) &&& (nI (1431655765)))).toUInt32 >>> ((nI (2)).toUInt32 &&& Int32.toUInt32 31)).toInt32) &&& (nI (858993459)))).toUInt32 >>> ((nI (4)).toUInt32 &&& Int32.toUInt32 31)).toInt32)) &&& (nI (252645135))).toUInt32 >>> ((nI (8)).toUInt32 &&& Int32.toUInt32 31)).toInt32)).toUInt32 >>> ((nI (16)).toUInt32 &&& Int32.toUInt32 31)).toInt32)) &&& (nI (63)) = nI (q_bc x) := by decide +kernel
set_option maxRecDepth 4000 in
theorem c_I_bitCount {G : g_G} (l : Launch) (V : g_V) (S : g_L) (x : Nat) (hx : x < 64) : g_C G l y_I_bitCount b_I_bitCount 1 (some .int) 1 [.int (nI x)] V S (fun r V' S' => r = some (.int (nI (q_bc x))) ∧ V' = V ∧ S' = S) := by
  refine g_C.of (lv := [some (.int (nI x))]) (by decide +kernel) rfl rfl rfl (Nat.le_of_ble_eq_true rfl) ?_
  refine j_iload_n (i := 0) d_I_bitCount_0 rfl lg0 ?_
  refine j_iload_n (i := 0) d_I_bitCount_1 rfl lg0 ?_
  refine j_iconstN (k := 1) d_I_bitCount_2 (by decide) ?_
  refine j_iushr d_I_bitCount_3 ?_
  refine j_ldcw (v := nI 1431655765) d_I_bitCount_4 (g_use (List.mem_of_getElem? (i := 209) (by decide +kernel)) rfl) ?_
  refine j_iand d_I_bitCount_7 ?_
  refine j_isub d_I_bitCount_8 ?_
  refine j_istore_n d_I_bitCount_9 rfl ls0 ?_
  refine j_iload_n (i := 0) d_I_bitCount_10 rfl lg0 ?_
  refine j_ldcw (v := nI 858993459) d_I_bitCount_11 (g_use (List.mem_of_getElem? (i := 210) (by decide +kernel)) rfl) ?_
  refine j_iand d_I_bitCount_14 ?_
  refine j_iload_n (i := 0) d_I_bitCount_15 rfl lg0 ?_
  refine j_iconstN (k := 2) d_I_bitCount_16 (by decide) ?_
  refine j_iushr d_I_bitCount_17 ?_
  refine j_ldcw (v := nI 858993459) d_I_bitCount_18 (g_use (List.mem_of_getElem? (i := 210) (by decide +kernel)) rfl) ?_
  refine j_iand d_I_bitCount_21 ?_
  refine j_iadd d_I_bitCount_22 ?_
  refine j_istore_n d_I_bitCount_23 rfl ls0 ?_
  refine j_iload_n (i := 0) d_I_bitCount_24 rfl lg0 ?_
  refine j_iload_n (i := 0) d_I_bitCount_25 rfl lg0 ?_
  refine j_iconstN (k := 4) d_I_bitCount_26 (by decide) ?_
  refine j_iushr d_I_bitCount_27 ?_
  refine j_iadd d_I_bitCount_28 ?_
  refine j_ldcw (v := nI 252645135) d_I_bitCount_29 (g_use (List.mem_of_getElem? (i := 211) (by decide +kernel)) rfl) ?_
  refine j_iand d_I_bitCount_32 ?_
  refine j_istore_n d_I_bitCount_33 rfl ls0 ?_
  refine j_iload_n (i := 0) d_I_bitCount_34 rfl lg0 ?_
  refine j_iload_n (i := 0) d_I_bitCount_35 rfl lg0 ?_
  refine j_bipushN (k := 8) d_I_bitCount_36 (by decide) ?_
  refine j_iushr d_I_bitCount_38 ?_
  refine j_iadd d_I_bitCount_39 ?_
  refine j_istore_n d_I_bitCount_40 rfl ls0 ?_
  refine j_iload_n (i := 0) d_I_bitCount_41 rfl lg0 ?_
  refine j_iload_n (i := 0) d_I_bitCount_42 rfl lg0 ?_
  refine j_bipushN (k := 16) d_I_bitCount_43 (by decide) ?_
  refine j_iushr d_I_bitCount_45 ?_
  refine j_iadd d_I_bitCount_46 ?_
  refine j_istore_n d_I_bitCount_47 rfl ls0 ?_
  refine j_iload_n (i := 0) d_I_bitCount_48 rfl lg0 ?_
  refine j_bipushN (k := 63) d_I_bitCount_49 (by decide) ?_
  refine j_iand d_I_bitCount_51 ?_
  refine j_iret d_I_bitCount_52 ⟨congrArg (fun v => some (Value.int v)) (g_bc x hx), rfl, rfl⟩
abbrev q_okd (n : Nat) (L : Nat → Nat) (p f d : Nat) : Prop := q_dig n L p ∧ L p - 48 + 1 < f ∧ ¬ d.testBit (L p - 48) = true
def q_rd (L : Nat → Nat) (p f : Nat) (rf : Nat → Nat) : Nat → Nat := fun i => if 5 * f ≤ i ∧ i < 5 * f + 5 then L (p + (i - 5 * f)) - 48 else rf i
/-- THE TEXT from p on, f farms and the dams d told: the fault (none), the farms, the dams, the farms' figures -/
def q_ps (n : Nat) (L : Nat → Nat) : Nat → Nat → Nat → Nat → (Nat → Nat) → Option Nat × Nat × Nat × (Nat → Nat)
  | 0, p, f, d, rf => (some p, f, d, rf)
  | m + 1, p, f, d, rf =>
    if n ≤ p then (none, f, d, rf)
    else if L p = 70 ∧ f < 6 then
      (if q_rf n L (p + 1) 5 0 < 5 then (some (p + 1 + q_rf n L (p + 1) 5 0), f, d, rf) else q_ps n L m (p + 6) (f + 1) d (q_rd L (p + 1) f rf))
    else if L p = 73 ∧ q_bc d + 1 < f then
      (if q_okd n L (p + 1) f d then q_ps n L m (p + 2) f (d ||| 1 <<< (L (p + 1) - 48)) rf else (some (p + 1), f, d, rf))
    else (some p, f, d, rf)
def q_fault (n : Nat) (L : Nat → Nat) : Option Nat × Nat × Nat × (Nat → Nat) := if 0 < n ∧ L 0 = 68 then q_ps n L 50 1 0 0 (fun _ => 0) else (some 0, 0, 0, fun _ => 0)
def q_an : Option Nat → Int32
  | some p => nI p
  | none => -9
section QPS
variable {n m p f d : Nat} {L rf : Nat → Nat}
theorem q_ps_end (h : n ≤ p) : q_ps n L (m + 1) p f d rf = (none, f, d, rf) := if_pos h
theorem q_ps_F0 (h : ¬ n ≤ p) (hL : L p = 70 ∧ f < 6) (hr : q_rf n L (p + 1) 5 0 < 5) : q_ps n L (m + 1) p f d rf = (some (p + 1 + q_rf n L (p + 1) 5 0), f, d, rf) := by
  show (if _ then _ else _) = _
  rw [if_neg h, if_pos hL, if_pos hr]
theorem q_ps_F1 (h : ¬ n ≤ p) (hL : L p = 70 ∧ f < 6) (hr : ¬ q_rf n L (p + 1) 5 0 < 5) : q_ps n L (m + 1) p f d rf = q_ps n L m (p + 6) (f + 1) d (q_rd L (p + 1) f rf) := by
  show (if _ then _ else _) = _
  rw [if_neg h, if_pos hL, if_neg hr]
theorem q_ps_I0 (h : ¬ n ≤ p) (hL : ¬ (L p = 70 ∧ f < 6)) (hI : L p = 73 ∧ q_bc d + 1 < f) (hr : ¬ q_okd n L (p + 1) f d) : q_ps n L (m + 1) p f d rf = (some (p + 1), f, d, rf) := by
  show (if _ then _ else _) = _
  rw [if_neg h, if_neg hL, if_pos hI, if_neg hr]
theorem q_ps_I1 (h : ¬ n ≤ p) (hL : ¬ (L p = 70 ∧ f < 6)) (hI : L p = 73 ∧ q_bc d + 1 < f) (hr : q_okd n L (p + 1) f d) : q_ps n L (m + 1) p f d rf = q_ps n L m (p + 2) f (d ||| 1 <<< (L (p + 1) - 48)) rf := by
  show (if _ then _ else _) = _
  rw [if_neg h, if_neg hL, if_pos hI, if_pos hr]
theorem q_ps_X (h : ¬ n ≤ p) (hL : ¬ (L p = 70 ∧ f < 6)) (hI : ¬ (L p = 73 ∧ q_bc d + 1 < f)) : q_ps n L (m + 1) p f d rf = (some p, f, d, rf) := by
  show (if _ then _ else _) = _
  rw [if_neg h, if_neg hL, if_neg hI]
end QPS
set_option maxRecDepth 4000 in
theorem lp_S_firstFault {G : g_G} (l : Launch) (V : g_V) (S : g_L) (hT : g_T V) : ∀ (n : Nat) (rf : Nat → Nat) (m p f d : Nat), (f ≤ 6) → (1 ≤ m) → (d < 2 ^ (f - 1)) → (V 1 1 + 1 ≤ p + m) → (p < 60) → (q_fault (V 1 1) (V 2) = q_ps (V 1 1) (V 2) m p f d rf) → m < n → JW G (g_M G l 4 (some .int) (fun r V' S' => r = some (.int (q_an (q_fault (V 1 1) (V 2)).1)) ∧ V' = V ∧ S' = S)) b_S_firstFault R_S 18 [some (.ref (g_a G (1))), some (.int (nI (f))), some (.int (nI (d))), some (.int (nI (p))), none, none] [] V S := by
  intro n
  induction n with
  | zero => intro rf m p f d hf hm1 hd hpm hp50 he hm; exact absurd hm (Nat.not_lt_zero _)
  | succ n ih =>
    intro rf m p f d hf hm1 hd hpm hp50 he hm
    have hl := hT.1
    have hd64 : d < 64 := Nat.lt_of_lt_of_le hd (Nat.pow_le_pow_right (n := 2) (j := 6) (by decide) (by omega))
    refine j_iload_n (i := 3) d_S_firstFault_18 rfl lg3 ?_
    refine j_aload_n (i := 0) d_S_firstFault_19 rfl lg0 ?_
    refine gf_S_15 d_S_firstFault_20 ?_
    refine j_icmp_geN (tgt := 157) d_S_firstFault_23 (by decide) (by omega) (by omega) (fun h_23 => ?_) (fun h_23 => ?_)
    ·
      obtain ⟨m', rfl⟩ : ∃ m', m = m' + 1 := ⟨m - 1, by omega⟩
      refine j_bipush (v := -9) d_S_firstFault_157 (by decide) ?_
      refine j_iret d_S_firstFault_159 ⟨by rw [he, q_ps_end (by omega)]; rfl, rfl, rfl⟩
    ·
      obtain ⟨m', rfl⟩ : ∃ m', m = m' + 1 := ⟨m - 1, by omega⟩
      refine j_aload_n (i := 0) d_S_firstFault_26 rfl lg0 ?_
      refine j_iload_n (i := 3) d_S_firstFault_27 rfl lg3 ?_
      refine cl_S_19 (c_S_letterAt l V S hT (p) (by omega)) d_S_firstFault_28 rfl rfl (g_ftM (by decide)) (Nat.le_of_ble_eq_true rfl) (g_pu ?_)
      rw [q_let_t (by omega)]
      have h255 := hT.2 p (by omega)
      refine j_istore d_S_firstFault_31 ls4i ?_
      refine j_iload d_S_firstFault_33 lg4 ?_
      refine j_bipushN (k := 70) d_S_firstFault_35 (by decide) ?_
      refine j_icmp_neN (tgt := 86) d_S_firstFault_37 (by decide) (by omega) (by omega) (fun h_37 => ?_) (fun h_37 => ?_)
      ·
        refine j_iload d_S_firstFault_86 lg4 ?_
        refine j_bipushN (k := 73) d_S_firstFault_88 (by decide) ?_
        refine j_icmp_neN (tgt := 152) d_S_firstFault_90 (by decide) (by omega) (by omega) (fun h_90 => ?_) (fun h_90 => ?_)
        ·
          try rw [g_le1 (n := f) (by omega) q_bc_lt] at h_100
          refine j_iload_n (i := 3) d_S_firstFault_152 rfl lg3 ?_
          refine j_iret d_S_firstFault_153 ⟨by rw [he, q_ps_X (by omega) (fun q => by omega) (fun q => by omega)]; rfl, rfl, rfl⟩
        ·
          refine j_iload_n (i := 2) d_S_firstFault_93 rfl lg2 ?_
          refine cl_S_32 (c_I_bitCount l V S (d) (by omega)) d_S_firstFault_94 rfl rfl (g_ftM (by decide)) (Nat.le_of_ble_eq_true rfl) (g_pu ?_)
          refine j_iload_n (i := 1) d_S_firstFault_97 rfl lg1 ?_
          refine j_iconstN (k := 1) d_S_firstFault_98 (by decide) ?_
          refine j_isub d_S_firstFault_99 ?_
          refine j_icmp_ge (tgt := 152) d_S_firstFault_100 (by decide) (fun h_100 => ?_) (fun h_100 => ?_)
          ·
            try rw [g_le1 (n := f) (by omega) q_bc_lt] at h_100
            refine j_iload_n (i := 3) d_S_firstFault_152 rfl lg3 ?_
            refine j_iret d_S_firstFault_153 ⟨by rw [he, q_ps_X (by omega) (fun q => by omega) (fun q => by omega)]; rfl, rfl, rfl⟩
          ·
            rw [g_le1 (n := f) (by omega) q_bc_lt] at h_100
            refine j_aload_n (i := 0) d_S_firstFault_103 rfl lg0 ?_
            refine j_iload_n (i := 3) d_S_firstFault_104 rfl lg3 ?_
            refine j_iconstN (k := 1) d_S_firstFault_105 (by decide) ?_
            refine j_iaddN d_S_firstFault_106 ?_
            refine cl_S_26 (c_S_figureAt l V S hT (p + 1) (by omega)) d_S_firstFault_107 rfl rfl (g_ftM (by decide)) (Nat.le_of_ble_eq_true rfl) (g_pu ?_)
            by_cases hdg : q_dig (V 1 1) (V 2) (p + 1)
            ·
              have hdg2 := hdg.2
              rw [q_fig_t hdg]
              refine j_istore d_S_firstFault_110 ls5i ?_
              refine j_iload d_S_firstFault_112 lg5 ?_
              refine j_if_lt (tgt := 134) d_S_firstFault_114 (by decide) (fun h => absurd h (nI_pos (by omega))) (fun _ => ?_)
              refine j_iload d_S_firstFault_117 lg5 ?_
              refine j_iload_n (i := 1) d_S_firstFault_119 rfl lg1 ?_
              refine j_iconstN (k := 1) d_S_firstFault_120 (by decide) ?_
              refine j_isub d_S_firstFault_121 ?_
              refine j_icmp_ge (tgt := 134) d_S_firstFault_122 (by decide) (fun h_122 => ?_) (fun h_122 => ?_)
              ·
                try rw [g_le1 (by omega) (by omega)] at h_122
                refine j_iload_n (i := 3) d_S_firstFault_134 rfl lg3 ?_
                refine j_iconstN (k := 1) d_S_firstFault_135 (by decide) ?_
                refine j_iaddN d_S_firstFault_136 ?_
                refine j_iret d_S_firstFault_137 ⟨by rw [he, q_ps_I0 (by omega) (fun q => by omega) ⟨by omega, by omega⟩ (fun q => by first | exact hdg q.1 | exact q.2.2 h_131 | (have := q.2.1; omega))]; rfl, rfl, rfl⟩
              ·
                rw [g_le1 (by omega) (by omega)] at h_122
                refine j_iload_n (i := 2) d_S_firstFault_125 rfl lg2 ?_
                refine j_iload d_S_firstFault_126 lg5 ?_
                refine cl_S_37 (c_D_has l V S (d) (V 2 (p + 1) - 48) (by omega) (by omega)) d_S_firstFault_128 rfl rfl (g_ftM (by decide)) (Nat.le_of_ble_eq_true rfl) (g_pu ?_)
                refine j_if_eqB (tgt := 138) d_S_firstFault_131 (by decide) (fun h_131 => ?_) (fun h_131 => ?_)
                ·
                  refine j_iload_n (i := 2) d_S_firstFault_138 rfl lg2 ?_
                  refine j_iload d_S_firstFault_139 lg5 ?_
                  refine cl_S_41 (c_D_bit l V S (V 2 (p + 1) - 48) (by omega)) d_S_firstFault_141 rfl rfl (g_ftM (by decide)) (Nat.le_of_ble_eq_true rfl) (g_pu ?_)
                  refine j_iorN d_S_firstFault_144 ?_
                  refine j_istore_n d_S_firstFault_145 rfl ls2i ?_
                  refine j_iincN (k := 2) d_S_firstFault_146 lg3 (by decide) ls3i ?_
                  refine j_goto (tgt := 154) d_S_firstFault_149 (by decide) ?_
                  refine j_goto (tgt := 18) d_S_firstFault_154 (by decide) ?_
                  exact j_fg 4 (j_fg 5 (ih _ (m') _ _ _ hf (by omega) (Nat.or_lt_two_pow hd (q_bit_lt (by omega))) (by omega) (by omega) (by rw [he, q_ps_I1 (by omega) (fun q => by omega) ⟨by omega, by omega⟩ ⟨hdg, by omega, h_131⟩]) (by omega)))
                ·
                  try rw [g_le1 (by omega) (by omega)] at h_122
                  refine j_iload_n (i := 3) d_S_firstFault_134 rfl lg3 ?_
                  refine j_iconstN (k := 1) d_S_firstFault_135 (by decide) ?_
                  refine j_iaddN d_S_firstFault_136 ?_
                  refine j_iret d_S_firstFault_137 ⟨by rw [he, q_ps_I0 (by omega) (fun q => by omega) ⟨by omega, by omega⟩ (fun q => by first | exact hdg q.1 | exact q.2.2 h_131 | (have := q.2.1; omega))]; rfl, rfl, rfl⟩
            ·
              rw [q_fig_f hdg]
              refine j_istore d_S_firstFault_110 ls5i ?_
              refine j_iload d_S_firstFault_112 lg5 ?_
              refine j_if_lt (tgt := 134) d_S_firstFault_114 (by decide) (fun h_114 => ?_) (fun h_114 => ?_)
              ·
                try rw [g_le1 (by omega) (by omega)] at h_122
                refine j_iload_n (i := 3) d_S_firstFault_134 rfl lg3 ?_
                refine j_iconstN (k := 1) d_S_firstFault_135 (by decide) ?_
                refine j_iaddN d_S_firstFault_136 ?_
                refine j_iret d_S_firstFault_137 ⟨by rw [he, q_ps_I0 (by omega) (fun q => by omega) ⟨by omega, by omega⟩ (fun q => by first | exact hdg q.1 | exact q.2.2 h_131 | (have := q.2.1; omega))]; rfl, rfl, rfl⟩
              ·
                exact absurd (by decide) h_114
      ·
        refine j_iload_n (i := 1) d_S_firstFault_40 rfl lg1 ?_
        refine j_bipushN (k := 6) d_S_firstFault_41 (by decide) ?_
        refine j_icmp_geN (tgt := 86) d_S_firstFault_43 (by decide) (by omega) (by omega) (fun h_43 => ?_) (fun h_43 => ?_)
        ·
          refine j_iload d_S_firstFault_86 lg4 ?_
          refine j_bipushN (k := 73) d_S_firstFault_88 (by decide) ?_
          refine j_icmp_neN (tgt := 152) d_S_firstFault_90 (by decide) (by omega) (by omega) (fun h_90 => ?_) (fun h_90 => ?_)
          ·
            try rw [g_le1 (n := f) (by omega) q_bc_lt] at h_100
            refine j_iload_n (i := 3) d_S_firstFault_152 rfl lg3 ?_
            refine j_iret d_S_firstFault_153 ⟨by rw [he, q_ps_X (by omega) (fun q => by omega) (fun q => by omega)]; rfl, rfl, rfl⟩
          ·
            refine j_iload_n (i := 2) d_S_firstFault_93 rfl lg2 ?_
            refine cl_S_32 (c_I_bitCount l V S (d) (by omega)) d_S_firstFault_94 rfl rfl (g_ftM (by decide)) (Nat.le_of_ble_eq_true rfl) (g_pu ?_)
            refine j_iload_n (i := 1) d_S_firstFault_97 rfl lg1 ?_
            refine j_iconstN (k := 1) d_S_firstFault_98 (by decide) ?_
            refine j_isub d_S_firstFault_99 ?_
            refine j_icmp_ge (tgt := 152) d_S_firstFault_100 (by decide) (fun h_100 => ?_) (fun h_100 => ?_)
            ·
              try rw [g_le1 (n := f) (by omega) q_bc_lt] at h_100
              refine j_iload_n (i := 3) d_S_firstFault_152 rfl lg3 ?_
              refine j_iret d_S_firstFault_153 ⟨by rw [he, q_ps_X (by omega) (fun q => by omega) (fun q => by omega)]; rfl, rfl, rfl⟩
            ·
              rw [g_le1 (n := f) (by omega) q_bc_lt] at h_100
              refine j_aload_n (i := 0) d_S_firstFault_103 rfl lg0 ?_
              refine j_iload_n (i := 3) d_S_firstFault_104 rfl lg3 ?_
              refine j_iconstN (k := 1) d_S_firstFault_105 (by decide) ?_
              refine j_iaddN d_S_firstFault_106 ?_
              refine cl_S_26 (c_S_figureAt l V S hT (p + 1) (by omega)) d_S_firstFault_107 rfl rfl (g_ftM (by decide)) (Nat.le_of_ble_eq_true rfl) (g_pu ?_)
              by_cases hdg : q_dig (V 1 1) (V 2) (p + 1)
              ·
                have hdg2 := hdg.2
                rw [q_fig_t hdg]
                refine j_istore d_S_firstFault_110 ls5i ?_
                refine j_iload d_S_firstFault_112 lg5 ?_
                refine j_if_lt (tgt := 134) d_S_firstFault_114 (by decide) (fun h => absurd h (nI_pos (by omega))) (fun _ => ?_)
                refine j_iload d_S_firstFault_117 lg5 ?_
                refine j_iload_n (i := 1) d_S_firstFault_119 rfl lg1 ?_
                refine j_iconstN (k := 1) d_S_firstFault_120 (by decide) ?_
                refine j_isub d_S_firstFault_121 ?_
                refine j_icmp_ge (tgt := 134) d_S_firstFault_122 (by decide) (fun h_122 => ?_) (fun h_122 => ?_)
                ·
                  try rw [g_le1 (by omega) (by omega)] at h_122
                  refine j_iload_n (i := 3) d_S_firstFault_134 rfl lg3 ?_
                  refine j_iconstN (k := 1) d_S_firstFault_135 (by decide) ?_
                  refine j_iaddN d_S_firstFault_136 ?_
                  refine j_iret d_S_firstFault_137 ⟨by rw [he, q_ps_I0 (by omega) (fun q => by omega) ⟨by omega, by omega⟩ (fun q => by first | exact hdg q.1 | exact q.2.2 h_131 | (have := q.2.1; omega))]; rfl, rfl, rfl⟩
                ·
                  rw [g_le1 (by omega) (by omega)] at h_122
                  refine j_iload_n (i := 2) d_S_firstFault_125 rfl lg2 ?_
                  refine j_iload d_S_firstFault_126 lg5 ?_
                  refine cl_S_37 (c_D_has l V S (d) (V 2 (p + 1) - 48) (by omega) (by omega)) d_S_firstFault_128 rfl rfl (g_ftM (by decide)) (Nat.le_of_ble_eq_true rfl) (g_pu ?_)
                  refine j_if_eqB (tgt := 138) d_S_firstFault_131 (by decide) (fun h_131 => ?_) (fun h_131 => ?_)
                  ·
                    refine j_iload_n (i := 2) d_S_firstFault_138 rfl lg2 ?_
                    refine j_iload d_S_firstFault_139 lg5 ?_
                    refine cl_S_41 (c_D_bit l V S (V 2 (p + 1) - 48) (by omega)) d_S_firstFault_141 rfl rfl (g_ftM (by decide)) (Nat.le_of_ble_eq_true rfl) (g_pu ?_)
                    refine j_iorN d_S_firstFault_144 ?_
                    refine j_istore_n d_S_firstFault_145 rfl ls2i ?_
                    refine j_iincN (k := 2) d_S_firstFault_146 lg3 (by decide) ls3i ?_
                    refine j_goto (tgt := 154) d_S_firstFault_149 (by decide) ?_
                    refine j_goto (tgt := 18) d_S_firstFault_154 (by decide) ?_
                    exact j_fg 4 (j_fg 5 (ih _ (m') _ _ _ hf (by omega) (Nat.or_lt_two_pow hd (q_bit_lt (by omega))) (by omega) (by omega) (by rw [he, q_ps_I1 (by omega) (fun q => by omega) ⟨by omega, by omega⟩ ⟨hdg, by omega, h_131⟩]) (by omega)))
                  ·
                    try rw [g_le1 (by omega) (by omega)] at h_122
                    refine j_iload_n (i := 3) d_S_firstFault_134 rfl lg3 ?_
                    refine j_iconstN (k := 1) d_S_firstFault_135 (by decide) ?_
                    refine j_iaddN d_S_firstFault_136 ?_
                    refine j_iret d_S_firstFault_137 ⟨by rw [he, q_ps_I0 (by omega) (fun q => by omega) ⟨by omega, by omega⟩ (fun q => by first | exact hdg q.1 | exact q.2.2 h_131 | (have := q.2.1; omega))]; rfl, rfl, rfl⟩
              ·
                rw [q_fig_f hdg]
                refine j_istore d_S_firstFault_110 ls5i ?_
                refine j_iload d_S_firstFault_112 lg5 ?_
                refine j_if_lt (tgt := 134) d_S_firstFault_114 (by decide) (fun h_114 => ?_) (fun h_114 => ?_)
                ·
                  try rw [g_le1 (by omega) (by omega)] at h_122
                  refine j_iload_n (i := 3) d_S_firstFault_134 rfl lg3 ?_
                  refine j_iconstN (k := 1) d_S_firstFault_135 (by decide) ?_
                  refine j_iaddN d_S_firstFault_136 ?_
                  refine j_iret d_S_firstFault_137 ⟨by rw [he, q_ps_I0 (by omega) (fun q => by omega) ⟨by omega, by omega⟩ (fun q => by first | exact hdg q.1 | exact q.2.2 h_131 | (have := q.2.1; omega))]; rfl, rfl, rfl⟩
                ·
                  exact absurd (by decide) h_114
        ·
          refine j_aload_n (i := 0) d_S_firstFault_46 rfl lg0 ?_
          refine j_iload_n (i := 3) d_S_firstFault_47 rfl lg3 ?_
          refine j_iconstN (k := 1) d_S_firstFault_48 (by decide) ?_
          refine j_iaddN d_S_firstFault_49 ?_
          refine cl_S_29 (c_S_rightFigures l V S hT (p + 1) (by omega)) d_S_firstFault_50 rfl rfl (g_ftM (by decide)) (Nat.le_of_ble_eq_true rfl) (g_pu ?_)
          have hr5 := q_rf_le (n := V 1 1) (p := p + 1) (L := V 2) 5 0
          refine j_istore d_S_firstFault_53 ls5i ?_
          refine j_iload d_S_firstFault_55 lg5 ?_
          refine j_getsGN d_S_firstFault_57 gs_S_23 ?_
          refine j_alenG d_S_firstFault_60 ?_
          refine j_icmp_geN (tgt := 71) d_S_firstFault_61 (by decide) (by omega) (by omega) (fun h_61 => ?_) (fun h_61 => ?_)
          ·
            refine j_iincN (k := 1) d_S_firstFault_71 lg1 (by decide) ls1r ?_
            refine j_iload_n (i := 3) d_S_firstFault_74 rfl lg3 ?_
            refine j_getsGN d_S_firstFault_75 gs_S_23 ?_
            refine j_alenG d_S_firstFault_78 ?_
            refine j_iconstN (k := 1) d_S_firstFault_79 (by decide) ?_
            refine j_iaddN d_S_firstFault_80 ?_
            refine j_iaddN d_S_firstFault_81 ?_
            refine j_istore_n d_S_firstFault_82 rfl ls3i ?_
            refine j_goto (tgt := 154) d_S_firstFault_83 (by decide) ?_
            refine j_goto (tgt := 18) d_S_firstFault_154 (by decide) ?_
            exact j_fg 4 (j_fg 5 (ih _ (m') _ _ _ (by omega) (by omega) (Nat.lt_of_lt_of_le hd (Nat.pow_le_pow_right (by decide) (by omega))) (by omega) (by omega) (by rw [he, q_ps_F1 (by omega) ⟨by omega, h_43⟩ (by omega)]) (by omega)))
          ·
            refine j_iload_n (i := 3) d_S_firstFault_64 rfl lg3 ?_
            refine j_iconstN (k := 1) d_S_firstFault_65 (by decide) ?_
            refine j_iaddN d_S_firstFault_66 ?_
            refine j_iload d_S_firstFault_67 lg5 ?_
            refine j_iaddN d_S_firstFault_69 ?_
            refine j_iret d_S_firstFault_70 ⟨by rw [he, q_ps_F0 (by omega) ⟨by omega, by omega⟩ (by omega)]; rfl, rfl, rfl⟩
set_option maxRecDepth 4000 in
theorem c_S_firstFault {G : g_G} (l : Launch) (V : g_V) (S : g_L) (hT : g_T V) : g_C G l y_S_firstFault b_S_firstFault 6 (some .int) 4 [.ref (g_a G (1))] V S (fun r V' S' => r = some (.int (q_an (q_fault (V 1 1) (V 2)).1)) ∧ V' = V ∧ S' = S) := by
  refine g_C.of (lv := [some (.ref (g_a G (1))), none, none, none, none, none]) (by decide +kernel) rfl rfl rfl (Nat.le_of_ble_eq_true rfl) ?_
  have hl := hT.1
  refine j_aload_n (i := 0) d_S_firstFault_0 rfl lg0 ?_
  refine j_iconstN (k := 0) d_S_firstFault_1 (by decide) ?_
  refine cl_S_19 (c_S_letterAt l V S hT (0) (by omega)) d_S_firstFault_2 rfl rfl (g_ftM (by decide)) (Nat.le_of_ble_eq_true rfl) (g_pu ?_)
  by_cases hn0 : 0 < V 1 1
  ·
    rw [q_let_t hn0]
    have h255 := hT.2 0 (by omega)
    refine j_bipushN (k := 68) d_S_firstFault_5 (by decide) ?_
    refine j_icmp_eqN (tgt := 12) d_S_firstFault_7 (by decide) (by omega) (by omega) (fun h_7 => ?_) (fun h_7 => ?_)
    ·
      refine j_iconstN (k := 0) d_S_firstFault_12 (by decide) ?_
      refine j_istore_n d_S_firstFault_13 rfl ls1r ?_
      refine j_iconstN (k := 0) d_S_firstFault_14 (by decide) ?_
      refine j_istore_n d_S_firstFault_15 rfl ls2i ?_
      refine j_iconstN (k := 1) d_S_firstFault_16 (by decide) ?_
      refine j_istore_n d_S_firstFault_17 rfl ls3i ?_
      exact lp_S_firstFault l V S hT _ (fun _ => 0) 50 1 0 0 (by omega) (by decide) (by decide) (by omega) (by omega) (by unfold q_fault; rw [if_pos (by first | exact ⟨hn0, h_7⟩ | exact absurd h_7 (by decide))]) (Nat.lt_succ_self _)
    ·
      refine j_iconstN (k := 0) d_S_firstFault_10 (by decide) ?_
      refine j_iret d_S_firstFault_11 ⟨by unfold q_fault; rw [if_neg (fun q => by first | exact h_7 q.2 | exact hn0 q.1)]; rfl, rfl, rfl⟩
  ·
    rw [q_let_f hn0]
    refine j_bipushN (k := 68) d_S_firstFault_5 (by decide) ?_
    refine j_icmp_eq (tgt := 12) d_S_firstFault_7 (by decide) (fun h_7 => ?_) (fun h_7 => ?_)
    ·
      refine j_iconstN (k := 0) d_S_firstFault_12 (by decide) ?_
      refine j_istore_n d_S_firstFault_13 rfl ls1r ?_
      refine j_iconstN (k := 0) d_S_firstFault_14 (by decide) ?_
      refine j_istore_n d_S_firstFault_15 rfl ls2i ?_
      refine j_iconstN (k := 1) d_S_firstFault_16 (by decide) ?_
      refine j_istore_n d_S_firstFault_17 rfl ls3i ?_
      exact lp_S_firstFault l V S hT _ (fun _ => 0) 50 1 0 0 (by omega) (by decide) (by decide) (by omega) (by omega) (by unfold q_fault; rw [if_pos (by first | exact ⟨hn0, h_7⟩ | exact absurd h_7 (by decide))]) (Nat.lt_succ_self _)
    ·
      refine j_iconstN (k := 0) d_S_firstFault_10 (by decide) ?_
      refine j_iret d_S_firstFault_11 ⟨by unfold q_fault; rw [if_neg (fun q => by first | exact h_7 q.2 | exact hn0 q.1)]; rfl, rfl, rfl⟩
end
