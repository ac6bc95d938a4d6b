section
/-! Part A of the kit's SKELETON (a starting text), as printed for this claim. -/
-- ===== PART A: goes FIRST, ahead of the names: the tables' words, and 'selects' of the private methods out of them =====
/-- a private method of a class that the tables say can be made, by its rows of tables_1 -/
def lw_okq (q : MethodName × Nat) : Prop := (q.1.cls ≠ "java/lang/invoke/MethodHandle" ∧ q.1.cls ≠ "java/lang/invoke/VarHandle") ∧ Cond.instantiable q.1.cls q.2 ∈ tables_1 ∧ Cond.privateMethod q.1 ∈ tables_1 ∧ Cond.instanceMethod q.1 ∈ tables_1
theorem lw_p0 : lw_okq (⟨"DykeFarms$Script", "firstFault", "()I"⟩, 2) := ⟨⟨by decide +kernel, by decide +kernel⟩, List.mem_of_getElem? (i := 17) (by decide +kernel), List.mem_of_getElem? (i := 138) (by decide +kernel), List.mem_of_getElem? (i := 139) (by decide +kernel)⟩
theorem lw_p1 : lw_okq (⟨"DykeFarms$Script", "letterAt", "(I)I"⟩, 2) := ⟨⟨by decide +kernel, by decide +kernel⟩, List.mem_of_getElem? (i := 17) (by decide +kernel), List.mem_of_getElem? (i := 142) (by decide +kernel), List.mem_of_getElem? (i := 143) (by decide +kernel)⟩
theorem lw_p2 : lw_okq (⟨"DykeFarms$Script", "rightFigures", "(I)I"⟩, 2) := ⟨⟨by decide +kernel, by decide +kernel⟩, List.mem_of_getElem? (i := 17) (by decide +kernel), List.mem_of_getElem? (i := 146) (by decide +kernel), List.mem_of_getElem? (i := 147) (by decide +kernel)⟩
theorem lw_p3 : lw_okq (⟨"DykeFarms$Script", "figureAt", "(I)I"⟩, 2) := ⟨⟨by decide +kernel, by decide +kernel⟩, List.mem_of_getElem? (i := 17) (by decide +kernel), List.mem_of_getElem? (i := 152) (by decide +kernel), List.mem_of_getElem? (i := 153) (by decide +kernel)⟩
theorem lw_p4 : lw_okq (⟨"DykeFarms$Held", "clear", "()V"⟩, 7) := ⟨⟨by decide +kernel, by decide +kernel⟩, List.mem_of_getElem? (i := 33) (by decide +kernel), List.mem_of_getElem? (i := 172) (by decide +kernel), List.mem_of_getElem? (i := 173) (by decide +kernel)⟩
theorem lw_p5 : lw_okq (⟨"DykeFarms", "settleFarm", "(I)V"⟩, 18) := ⟨⟨by decide +kernel, by decide +kernel⟩, List.mem_of_getElem? (i := 9) (by decide +kernel), List.mem_of_getElem? (i := 180) (by decide +kernel), List.mem_of_getElem? (i := 181) (by decide +kernel)⟩
theorem lw_p6 : lw_okq (⟨"DykeFarms", "everyFarm", "()I"⟩, 18) := ⟨⟨by decide +kernel, by decide +kernel⟩, List.mem_of_getElem? (i := 9) (by decide +kernel), List.mem_of_getElem? (i := 191) (by decide +kernel), List.mem_of_getElem? (i := 192) (by decide +kernel)⟩
theorem lw_p7 : lw_okq (⟨"DykeFarms", "clayOf", "(I)I"⟩, 18) := ⟨⟨by decide +kernel, by decide +kernel⟩, List.mem_of_getElem? (i := 9) (by decide +kernel), List.mem_of_getElem? (i := 195) (by decide +kernel), List.mem_of_getElem? (i := 196) (by decide +kernel)⟩
theorem lw_p8 : lw_okq (⟨"DykeFarms", "isFarm", "(I)Z"⟩, 18) := ⟨⟨by decide +kernel, by decide +kernel⟩, List.mem_of_getElem? (i := 9) (by decide +kernel), List.mem_of_getElem? (i := 204) (by decide +kernel), List.mem_of_getElem? (i := 205) (by decide +kernel)⟩
theorem lw_p9 : lw_okq (⟨"DykeFarms", "strengthAt", "(II)I"⟩, 18) := ⟨⟨by decide +kernel, by decide +kernel⟩, List.mem_of_getElem? (i := 9) (by decide +kernel), List.mem_of_getElem? (i := 208) (by decide +kernel), List.mem_of_getElem? (i := 209) (by decide +kernel)⟩
theorem lw_p10 : lw_okq (⟨"DykeFarms", "remember", "()V"⟩, 18) := ⟨⟨by decide +kernel, by decide +kernel⟩, List.mem_of_getElem? (i := 9) (by decide +kernel), List.mem_of_getElem? (i := 223) (by decide +kernel), List.mem_of_getElem? (i := 224) (by decide +kernel)⟩
theorem lw_p11 : lw_okq (⟨"DykeFarms", "actRow", "(I)I"⟩, 18) := ⟨⟨by decide +kernel, by decide +kernel⟩, List.mem_of_getElem? (i := 9) (by decide +kernel), List.mem_of_getElem? (i := 227) (by decide +kernel), List.mem_of_getElem? (i := 228) (by decide +kernel)⟩
theorem lw_p12 : lw_okq (⟨"DykeFarms$Held", "takeOver", "(LDykeFarms$Held;)V"⟩, 7) := ⟨⟨by decide +kernel, by decide +kernel⟩, List.mem_of_getElem? (i := 33) (by decide +kernel), List.mem_of_getElem? (i := 231) (by decide +kernel), List.mem_of_getElem? (i := 232) (by decide +kernel)⟩
theorem lw_p13 : lw_okq (⟨"DykeFarms", "strike", "([II)I"⟩, 18) := ⟨⟨by decide +kernel, by decide +kernel⟩, List.mem_of_getElem? (i := 9) (by decide +kernel), List.mem_of_getElem? (i := 238) (by decide +kernel), List.mem_of_getElem? (i := 239) (by decide +kernel)⟩
theorem lw_p14 : lw_okq (⟨"DykeFarms", "heightBehind", "(III)I"⟩, 18) := ⟨⟨by decide +kernel, by decide +kernel⟩, List.mem_of_getElem? (i := 9) (by decide +kernel), List.mem_of_getElem? (i := 242) (by decide +kernel), List.mem_of_getElem? (i := 243) (by decide +kernel)⟩
theorem lw_p15 : lw_okq (⟨"DykeFarms", "wetBy", "(I)I"⟩, 18) := ⟨⟨by decide +kernel, by decide +kernel⟩, List.mem_of_getElem? (i := 9) (by decide +kernel), List.mem_of_getElem? (i := 249) (by decide +kernel), List.mem_of_getElem? (i := 250) (by decide +kernel)⟩
def lw_privs_1 : List (MethodName × Nat) := [(⟨"DykeFarms$Script", "firstFault", "()I"⟩, 2), (⟨"DykeFarms$Script", "letterAt", "(I)I"⟩, 2), (⟨"DykeFarms$Script", "rightFigures", "(I)I"⟩, 2), (⟨"DykeFarms$Script", "figureAt", "(I)I"⟩, 2), (⟨"DykeFarms$Held", "clear", "()V"⟩, 7), (⟨"DykeFarms", "settleFarm", "(I)V"⟩, 18), (⟨"DykeFarms", "everyFarm", "()I"⟩, 18), (⟨"DykeFarms", "clayOf", "(I)I"⟩, 18), (⟨"DykeFarms", "isFarm", "(I)Z"⟩, 18), (⟨"DykeFarms", "strengthAt", "(II)I"⟩, 18), (⟨"DykeFarms", "remember", "()V"⟩, 18), (⟨"DykeFarms", "actRow", "(I)I"⟩, 18), (⟨"DykeFarms$Held", "takeOver", "(LDykeFarms$Held;)V"⟩, 7), (⟨"DykeFarms", "strike", "([II)I"⟩, 18), (⟨"DykeFarms", "heightBehind", "(III)I"⟩, 18), (⟨"DykeFarms", "wetBy", "(I)I"⟩, 18)]
theorem lw_r1 : ∀ q ∈ lw_privs_1, lw_okq q := List.forall_mem_cons.mpr ⟨lw_p0, List.forall_mem_cons.mpr ⟨lw_p1, List.forall_mem_cons.mpr ⟨lw_p2, List.forall_mem_cons.mpr ⟨lw_p3, List.forall_mem_cons.mpr ⟨lw_p4, List.forall_mem_cons.mpr ⟨lw_p5, List.forall_mem_cons.mpr ⟨lw_p6, List.forall_mem_cons.mpr ⟨lw_p7, List.forall_mem_cons.mpr ⟨lw_p8, List.forall_mem_cons.mpr ⟨lw_p9, List.forall_mem_cons.mpr ⟨lw_p10, List.forall_mem_cons.mpr ⟨lw_p11, List.forall_mem_cons.mpr ⟨lw_p12, List.forall_mem_cons.mpr ⟨lw_p13, List.forall_mem_cons.mpr ⟨lw_p14, List.forall_mem_cons.mpr ⟨lw_p15, fun _ h => absurd h List.not_mem_nil⟩⟩⟩⟩⟩⟩⟩⟩⟩⟩⟩⟩⟩⟩⟩⟩
theorem lw_p16 : lw_okq (⟨"DykeFarms", "worthOf", "(I)I"⟩, 18) := ⟨⟨by decide +kernel, by decide +kernel⟩, List.mem_of_getElem? (i := 9) (by decide +kernel), List.mem_of_getElem? (i := 253) (by decide +kernel), List.mem_of_getElem? (i := 254) (by decide +kernel)⟩
theorem lw_p17 : lw_okq (⟨"DykeFarms", "brokenBy", "(I)I"⟩, 18) := ⟨⟨by decide +kernel, by decide +kernel⟩, List.mem_of_getElem? (i := 9) (by decide +kernel), List.mem_of_getElem? (i := 285) (by decide +kernel), List.mem_of_getElem? (i := 286) (by decide +kernel)⟩
theorem lw_p18 : lw_okq (⟨"DykeFarms", "lackOf", "(II)I"⟩, 18) := ⟨⟨by decide +kernel, by decide +kernel⟩, List.mem_of_getElem? (i := 9) (by decide +kernel), List.mem_of_getElem? (i := 301) (by decide +kernel), List.mem_of_getElem? (i := 302) (by decide +kernel)⟩
theorem lw_p19 : lw_okq (⟨"DykeFarms", "reckonSets", "(I)V"⟩, 18) := ⟨⟨by decide +kernel, by decide +kernel⟩, List.mem_of_getElem? (i := 9) (by decide +kernel), List.mem_of_getElem? (i := 309) (by decide +kernel), List.mem_of_getElem? (i := 310) (by decide +kernel)⟩
theorem lw_p20 : lw_okq (⟨"DykeFarms", "bestSet", "(I)I"⟩, 18) := ⟨⟨by decide +kernel, by decide +kernel⟩, List.mem_of_getElem? (i := 9) (by decide +kernel), List.mem_of_getElem? (i := 314) (by decide +kernel), List.mem_of_getElem? (i := 315) (by decide +kernel)⟩
theorem lw_p21 : lw_okq (⟨"DykeFarms", "isBetter", "(II)Z"⟩, 18) := ⟨⟨by decide +kernel, by decide +kernel⟩, List.mem_of_getElem? (i := 9) (by decide +kernel), List.mem_of_getElem? (i := 318) (by decide +kernel), List.mem_of_getElem? (i := 319) (by decide +kernel)⟩
theorem lw_p22 : lw_okq (⟨"DykeFarms", "readStorms", "(IJ)Z"⟩, 18) := ⟨⟨by decide +kernel, by decide +kernel⟩, List.mem_of_getElem? (i := 9) (by decide +kernel), List.mem_of_getElem? (i := 330) (by decide +kernel), List.mem_of_getElem? (i := 331) (by decide +kernel)⟩
theorem lw_p23 : lw_okq (⟨"DykeFarms", "netOf", "(I)I"⟩, 18) := ⟨⟨by decide +kernel, by decide +kernel⟩, List.mem_of_getElem? (i := 9) (by decide +kernel), List.mem_of_getElem? (i := 344) (by decide +kernel), List.mem_of_getElem? (i := 345) (by decide +kernel)⟩
theorem lw_p24 : lw_okq (⟨"DykeFarms", "mostCuts", "(I)I"⟩, 18) := ⟨⟨by decide +kernel, by decide +kernel⟩, List.mem_of_getElem? (i := 9) (by decide +kernel), List.mem_of_getElem? (i := 353) (by decide +kernel), List.mem_of_getElem? (i := 354) (by decide +kernel)⟩
theorem lw_p25 : lw_okq (⟨"DykeFarms", "reckonGiven", "(II)V"⟩, 18) := ⟨⟨by decide +kernel, by decide +kernel⟩, List.mem_of_getElem? (i := 9) (by decide +kernel), List.mem_of_getElem? (i := 373) (by decide +kernel), List.mem_of_getElem? (i := 374) (by decide +kernel)⟩
theorem lw_p26 : lw_okq (⟨"DykeFarms", "isContent", "(III)Z"⟩, 18) := ⟨⟨by decide +kernel, by decide +kernel⟩, List.mem_of_getElem? (i := 9) (by decide +kernel), List.mem_of_getElem? (i := 377) (by decide +kernel), List.mem_of_getElem? (i := 378) (by decide +kernel)⟩
theorem lw_p27 : lw_okq (⟨"DykeFarms", "leftOver", "(III)I"⟩, 18) := ⟨⟨by decide +kernel, by decide +kernel⟩, List.mem_of_getElem? (i := 9) (by decide +kernel), List.mem_of_getElem? (i := 381) (by decide +kernel), List.mem_of_getElem? (i := 382) (by decide +kernel)⟩
theorem lw_p28 : lw_okq (⟨"DykeFarms", "holdsThrough", "(IIII)Z"⟩, 18) := ⟨⟨by decide +kernel, by decide +kernel⟩, List.mem_of_getElem? (i := 9) (by decide +kernel), List.mem_of_getElem? (i := 389) (by decide +kernel), List.mem_of_getElem? (i := 390) (by decide +kernel)⟩
theorem lw_p29 : lw_okq (⟨"DykeFarmsModel", "readDyke", "()I"⟩, 24) := ⟨⟨by decide +kernel, by decide +kernel⟩, List.mem_of_getElem? (i := 415) (by decide +kernel), List.mem_of_getElem? (i := 511) (by decide +kernel), List.mem_of_getElem? (i := 512) (by decide +kernel)⟩
theorem lw_p30 : lw_okq (⟨"DykeFarmsModel", "readPart", "()Z"⟩, 24) := ⟨⟨by decide +kernel, by decide +kernel⟩, List.mem_of_getElem? (i := 415) (by decide +kernel), List.mem_of_getElem? (i := 515) (by decide +kernel), List.mem_of_getElem? (i := 516) (by decide +kernel)⟩
theorem lw_p31 : lw_okq (⟨"DykeFarmsModel", "readFarm", "()Z"⟩, 24) := ⟨⟨by decide +kernel, by decide +kernel⟩, List.mem_of_getElem? (i := 415) (by decide +kernel), List.mem_of_getElem? (i := 519) (by decide +kernel), List.mem_of_getElem? (i := 520) (by decide +kernel)⟩
def lw_privs_2 : List (MethodName × Nat) := [(⟨"DykeFarms", "worthOf", "(I)I"⟩, 18), (⟨"DykeFarms", "brokenBy", "(I)I"⟩, 18), (⟨"DykeFarms", "lackOf", "(II)I"⟩, 18), (⟨"DykeFarms", "reckonSets", "(I)V"⟩, 18), (⟨"DykeFarms", "bestSet", "(I)I"⟩, 18), (⟨"DykeFarms", "isBetter", "(II)Z"⟩, 18), (⟨"DykeFarms", "readStorms", "(IJ)Z"⟩, 18), (⟨"DykeFarms", "netOf", "(I)I"⟩, 18), (⟨"DykeFarms", "mostCuts", "(I)I"⟩, 18), (⟨"DykeFarms", "reckonGiven", "(II)V"⟩, 18), (⟨"DykeFarms", "isContent", "(III)Z"⟩, 18), (⟨"DykeFarms", "leftOver", "(III)I"⟩, 18), (⟨"DykeFarms", "holdsThrough", "(IIII)Z"⟩, 18), (⟨"DykeFarmsModel", "readDyke", "()I"⟩, 24), (⟨"DykeFarmsModel", "readPart", "()Z"⟩, 24), (⟨"DykeFarmsModel", "readFarm", "()Z"⟩, 24)]
theorem lw_r2 : ∀ q ∈ lw_privs_2, lw_okq q := List.forall_mem_cons.mpr ⟨lw_p16, List.forall_mem_cons.mpr ⟨lw_p17, List.forall_mem_cons.mpr ⟨lw_p18, List.forall_mem_cons.mpr ⟨lw_p19, List.forall_mem_cons.mpr ⟨lw_p20, List.forall_mem_cons.mpr ⟨lw_p21, List.forall_mem_cons.mpr ⟨lw_p22, List.forall_mem_cons.mpr ⟨lw_p23, List.forall_mem_cons.mpr ⟨lw_p24, List.forall_mem_cons.mpr ⟨lw_p25, List.forall_mem_cons.mpr ⟨lw_p26, List.forall_mem_cons.mpr ⟨lw_p27, List.forall_mem_cons.mpr ⟨lw_p28, List.forall_mem_cons.mpr ⟨lw_p29, List.forall_mem_cons.mpr ⟨lw_p30, List.forall_mem_cons.mpr ⟨lw_p31, fun _ h => absurd h List.not_mem_nil⟩⟩⟩⟩⟩⟩⟩⟩⟩⟩⟩⟩⟩⟩⟩⟩
theorem lw_p32 : lw_okq (⟨"DykeFarmsModel", "figure", "(II)I"⟩, 24) := ⟨⟨by decide +kernel, by decide +kernel⟩, List.mem_of_getElem? (i := 415) (by decide +kernel), List.mem_of_getElem? (i := 523) (by decide +kernel), List.mem_of_getElem? (i := 524) (by decide +kernel)⟩
theorem lw_p33 : lw_okq (⟨"DykeFarmsModel", "canDam", "()Z"⟩, 24) := ⟨⟨by decide +kernel, by decide +kernel⟩, List.mem_of_getElem? (i := 415) (by decide +kernel), List.mem_of_getElem? (i := 527) (by decide +kernel), List.mem_of_getElem? (i := 528) (by decide +kernel)⟩
theorem lw_p34 : lw_okq (⟨"DykeFarmsModel", "readDam", "()Z"⟩, 24) := ⟨⟨by decide +kernel, by decide +kernel⟩, List.mem_of_getElem? (i := 415) (by decide +kernel), List.mem_of_getElem? (i := 531) (by decide +kernel), List.mem_of_getElem? (i := 532) (by decide +kernel)⟩
theorem lw_p35 : lw_okq (⟨"DykeFarmsModel", "everyone", "()I"⟩, 24) := ⟨⟨by decide +kernel, by decide +kernel⟩, List.mem_of_getElem? (i := 415) (by decide +kernel), List.mem_of_getElem? (i := 546) (by decide +kernel), List.mem_of_getElem? (i := 547) (by decide +kernel)⟩
theorem lw_p36 : lw_okq (⟨"DykeFarmsModel", "clayOf", "(I)I"⟩, 24) := ⟨⟨by decide +kernel, by decide +kernel⟩, List.mem_of_getElem? (i := 415) (by decide +kernel), List.mem_of_getElem? (i := 550) (by decide +kernel), List.mem_of_getElem? (i := 551) (by decide +kernel)⟩
theorem lw_p37 : lw_okq (⟨"DykeFarmsModel", "noFarm", "(I)Z"⟩, 24) := ⟨⟨by decide +kernel, by decide +kernel⟩, List.mem_of_getElem? (i := 415) (by decide +kernel), List.mem_of_getElem? (i := 558) (by decide +kernel), List.mem_of_getElem? (i := 559) (by decide +kernel)⟩
theorem lw_p38 : lw_okq (⟨"DykeFarmsModel", "strength", "([II)I"⟩, 24) := ⟨⟨by decide +kernel, by decide +kernel⟩, List.mem_of_getElem? (i := 415) (by decide +kernel), List.mem_of_getElem? (i := 562) (by decide +kernel), List.mem_of_getElem? (i := 563) (by decide +kernel)⟩
theorem lw_p39 : lw_okq (⟨"DykeFarmsModel", "note", "()V"⟩, 24) := ⟨⟨by decide +kernel, by decide +kernel⟩, List.mem_of_getElem? (i := 415) (by decide +kernel), List.mem_of_getElem? (i := 578) (by decide +kernel), List.mem_of_getElem? (i := 579) (by decide +kernel)⟩
theorem lw_p40 : lw_okq (⟨"DykeFarmsModel", "goStorm", "([II)I"⟩, 24) := ⟨⟨by decide +kernel, by decide +kernel⟩, List.mem_of_getElem? (i := 415) (by decide +kernel), List.mem_of_getElem? (i := 582) (by decide +kernel), List.mem_of_getElem? (i := 583) (by decide +kernel)⟩
theorem lw_p41 : lw_okq (⟨"DykeFarmsModel", "breaksBy", "([II)I"⟩, 24) := ⟨⟨by decide +kernel, by decide +kernel⟩, List.mem_of_getElem? (i := 415) (by decide +kernel), List.mem_of_getElem? (i := 586) (by decide +kernel), List.mem_of_getElem? (i := 587) (by decide +kernel)⟩
theorem lw_p42 : lw_okq (⟨"DykeFarmsModel", "drownsBy", "([II)I"⟩, 24) := ⟨⟨by decide +kernel, by decide +kernel⟩, List.mem_of_getElem? (i := 415) (by decide +kernel), List.mem_of_getElem? (i := 590) (by decide +kernel), List.mem_of_getElem? (i := 591) (by decide +kernel)⟩
theorem lw_p43 : lw_okq (⟨"DykeFarmsModel", "worthOf", "(I)I"⟩, 24) := ⟨⟨by decide +kernel, by decide +kernel⟩, List.mem_of_getElem? (i := 415) (by decide +kernel), List.mem_of_getElem? (i := 594) (by decide +kernel), List.mem_of_getElem? (i := 595) (by decide +kernel)⟩
theorem lw_p44 : lw_okq (⟨"DykeFarmsModel", "clayFor", "(II)I"⟩, 24) := ⟨⟨by decide +kernel, by decide +kernel⟩, List.mem_of_getElem? (i := 415) (by decide +kernel), List.mem_of_getElem? (i := 638) (by decide +kernel), List.mem_of_getElem? (i := 639) (by decide +kernel)⟩
theorem lw_p45 : lw_okq (⟨"DykeFarmsModel", "findPlacing", "(II)V"⟩, 24) := ⟨⟨by decide +kernel, by decide +kernel⟩, List.mem_of_getElem? (i := 415) (by decide +kernel), List.mem_of_getElem? (i := 647) (by decide +kernel), List.mem_of_getElem? (i := 648) (by decide +kernel)⟩
theorem lw_p46 : lw_okq (⟨"DykeFarmsModel", "begin", "()V"⟩, 24) := ⟨⟨by decide +kernel, by decide +kernel⟩, List.mem_of_getElem? (i := 415) (by decide +kernel), List.mem_of_getElem? (i := 671) (by decide +kernel), List.mem_of_getElem? (i := 672) (by decide +kernel)⟩
theorem lw_p47 : lw_okq (⟨"DykeFarmsModel", "netOf", "(I)I"⟩, 24) := ⟨⟨by decide +kernel, by decide +kernel⟩, List.mem_of_getElem? (i := 415) (by decide +kernel), List.mem_of_getElem? (i := 683) (by decide +kernel), List.mem_of_getElem? (i := 684) (by decide +kernel)⟩
def lw_privs_3 : List (MethodName × Nat) := [(⟨"DykeFarmsModel", "figure", "(II)I"⟩, 24), (⟨"DykeFarmsModel", "canDam", "()Z"⟩, 24), (⟨"DykeFarmsModel", "readDam", "()Z"⟩, 24), (⟨"DykeFarmsModel", "everyone", "()I"⟩, 24), (⟨"DykeFarmsModel", "clayOf", "(I)I"⟩, 24), (⟨"DykeFarmsModel", "noFarm", "(I)Z"⟩, 24), (⟨"DykeFarmsModel", "strength", "([II)I"⟩, 24), (⟨"DykeFarmsModel", "note", "()V"⟩, 24), (⟨"DykeFarmsModel", "goStorm", "([II)I"⟩, 24), (⟨"DykeFarmsModel", "breaksBy", "([II)I"⟩, 24), (⟨"DykeFarmsModel", "drownsBy", "([II)I"⟩, 24), (⟨"DykeFarmsModel", "worthOf", "(I)I"⟩, 24), (⟨"DykeFarmsModel", "clayFor", "(II)I"⟩, 24), (⟨"DykeFarmsModel", "findPlacing", "(II)V"⟩, 24), (⟨"DykeFarmsModel", "begin", "()V"⟩, 24), (⟨"DykeFarmsModel", "netOf", "(I)I"⟩, 24)]
theorem lw_r3 : ∀ q ∈ lw_privs_3, lw_okq q := List.forall_mem_cons.mpr ⟨lw_p32, List.forall_mem_cons.mpr ⟨lw_p33, List.forall_mem_cons.mpr ⟨lw_p34, List.forall_mem_cons.mpr ⟨lw_p35, List.forall_mem_cons.mpr ⟨lw_p36, List.forall_mem_cons.mpr ⟨lw_p37, List.forall_mem_cons.mpr ⟨lw_p38, List.forall_mem_cons.mpr ⟨lw_p39, List.forall_mem_cons.mpr ⟨lw_p40, List.forall_mem_cons.mpr ⟨lw_p41, List.forall_mem_cons.mpr ⟨lw_p42, List.forall_mem_cons.mpr ⟨lw_p43, List.forall_mem_cons.mpr ⟨lw_p44, List.forall_mem_cons.mpr ⟨lw_p45, List.forall_mem_cons.mpr ⟨lw_p46, List.forall_mem_cons.mpr ⟨lw_p47, fun _ h => absurd h List.not_mem_nil⟩⟩⟩⟩⟩⟩⟩⟩⟩⟩⟩⟩⟩⟩⟩⟩
theorem lw_p48 : lw_okq (⟨"DykeFarmsModel", "sumOf", "(I)I"⟩, 24) := ⟨⟨by decide +kernel, by decide +kernel⟩, List.mem_of_getElem? (i := 415) (by decide +kernel), List.mem_of_getElem? (i := 691) (by decide +kernel), List.mem_of_getElem? (i := 692) (by decide +kernel)⟩
theorem lw_p49 : lw_okq (⟨"DykeFarmsModel", "findRests", "(IIII)V"⟩, 24) := ⟨⟨by decide +kernel, by decide +kernel⟩, List.mem_of_getElem? (i := 415) (by decide +kernel), List.mem_of_getElem? (i := 715) (by decide +kernel), List.mem_of_getElem? (i := 716) (by decide +kernel)⟩
theorem lw_p50 : lw_okq (⟨"DykeFarmsModel", "gainOf", "(IIIII)I"⟩, 24) := ⟨⟨by decide +kernel, by decide +kernel⟩, List.mem_of_getElem? (i := 415) (by decide +kernel), List.mem_of_getElem? (i := 719) (by decide +kernel), List.mem_of_getElem? (i := 720) (by decide +kernel)⟩
def lw_privs_4 : List (MethodName × Nat) := [(⟨"DykeFarmsModel", "sumOf", "(I)I"⟩, 24), (⟨"DykeFarmsModel", "findRests", "(IIII)V"⟩, 24), (⟨"DykeFarmsModel", "gainOf", "(IIIII)I"⟩, 24)]
theorem lw_r4 : ∀ q ∈ lw_privs_4, lw_okq q := List.forall_mem_cons.mpr ⟨lw_p48, List.forall_mem_cons.mpr ⟨lw_p49, List.forall_mem_cons.mpr ⟨lw_p50, fun _ h => absurd h List.not_mem_nil⟩⟩⟩
def lw_privs : List (MethodName × Nat) := lw_privs_1 ++ (lw_privs_2 ++ (lw_privs_3 ++ (lw_privs_4)))
def lw_tbl : List Cond := k2_sels lw_privs ++ tables_1
theorem lw_privs_ok : ∀ q ∈ lw_privs, lw_okq q := by
  show ∀ q ∈ lw_privs_1 ++ (lw_privs_2 ++ (lw_privs_3 ++ (lw_privs_4))), lw_okq q
  exact List.forall_mem_append.mpr ⟨lw_r1, List.forall_mem_append.mpr ⟨lw_r2, List.forall_mem_append.mpr ⟨lw_r3, lw_r4⟩⟩⟩
end
section
/-- the words that hold at every call -/
def g_nest : Cond → Bool
  | .fieldLinkNest .. => true
  | .methodLinkNest .. => true
  | _ => false
def g_usable (w : Cond) : Bool := goodWord w || g_nest w
def lw_use : List Cond := lw_tbl.filter g_usable
theorem g_use {w : Cond} (h : w ∈ lw_tbl) (hg : g_usable w = true) : w ∈ lw_use := List.mem_filter.mpr ⟨h, hg⟩
/-! The world of this claim: the class, its parts and the reference, their cells numbered once for all; the judgement JW (the machine comes from here to the end that the context wants), and a row for each instruction. -/
def R_D : String := "DykeFarms"
def T_D : u_T := fun k => match k with
  | 0 => ("DykeFarms", "script", "LDykeFarms$Script;", true)
  | 1 => ("DykeFarms", "farms", "I", false)
  | 2 => ("DykeFarms", "grass", "[I", true)
  | 3 => ("DykeFarms", "worth", "[I", true)
  | 4 => ("DykeFarms", "kind", "[I", true)
  | 5 => ("DykeFarms", "now", "LDykeFarms$Held;", true)
  | 6 => ("DykeFarms", "past", "[LDykeFarms$Held;", true)
  | 7 => ("DykeFarms", "firstAct", "I", false)
  | 8 => ("DykeFarms", "acts", "I", false)
  | 9 => ("DykeFarms", "slots", "[LDykeFarms$Held;", true)
  | 10 => ("DykeFarms", "kept", "I", false)
  | 11 => ("DykeFarms", "theSeed", "J", false)
  | 12 => ("DykeFarms", "tried", "[I", true)
  | 13 => ("DykeFarms", "stormRow", "[I", true)
  | 14 => ("DykeFarms", "wetByGiven", "[I", true)
  | 15 => ("DykeFarms", "lossWith", "[I", true)
  | 16 => ("DykeFarms", "clayFor", "[I", true)
  | _ => ("DykeFarms", "bySet", "[I", true)
def ty_D : Nat → FieldType := fun k => match k with
  | 0 => (.object "DykeFarms$Script")
  | 1 => .int
  | 2 => (.array .int)
  | 3 => (.array .int)
  | 4 => (.array .int)
  | 5 => (.object "DykeFarms$Held")
  | 6 => (.array (.object "DykeFarms$Held"))
  | 7 => .int
  | 8 => .int
  | 9 => (.array (.object "DykeFarms$Held"))
  | 10 => .int
  | 11 => .long
  | 12 => (.array .int)
  | 13 => (.array .int)
  | 14 => (.array .int)
  | 15 => (.array .int)
  | 16 => (.array .int)
  | _ => (.array .int)
theorem nm_D : ∀ a, a < 18 → ∀ b, b < 18 → a ≠ b → (T_D a).2.1 ≠ (T_D b).2.1 := by decide +kernel
theorem ty_D_ok : ∀ k, k < 18 → parseFieldDescriptor (T_D k).2.2.1 = some (ty_D k) := by decide +kernel
theorem in_D : ∀ w ∈ u_ws R_D T_D 18, w ∈ lw_use := by decide +kernel
def R_S : String := "DykeFarms$Script"
def T_S : u_T := fun k => match k with
  | 0 => ("DykeFarms$Script", "letters", "[I", true)
  | _ => ("DykeFarms$Script", "length", "I", false)
def ty_S : Nat → FieldType := fun k => match k with
  | 0 => (.array .int)
  | _ => .int
theorem nm_S : ∀ a, a < 2 → ∀ b, b < 2 → a ≠ b → (T_S a).2.1 ≠ (T_S b).2.1 := by decide +kernel
theorem ty_S_ok : ∀ k, k < 2 → parseFieldDescriptor (T_S k).2.2.1 = some (ty_S k) := by decide +kernel
theorem in_S : ∀ w ∈ u_ws R_S T_S 2, w ∈ lw_use := by decide +kernel
def R_H : String := "DykeFarms$Held"
def T_H : u_T := fun k => match k with
  | 0 => ("DykeFarms$Held", "high", "[I", true)
  | 1 => ("DykeFarms$Held", "clay", "[I", true)
  | 2 => ("DykeFarms$Held", "keeper", "[I", true)
  | 3 => ("DykeFarms$Held", "owed", "[[I", true)
  | 4 => ("DykeFarms$Held", "spades", "I", false)
  | 5 => ("DykeFarms$Held", "dams", "I", false)
  | _ => ("DykeFarms$Held", "tide", "I", false)
def ty_H : Nat → FieldType := fun k => match k with
  | 0 => (.array .int)
  | 1 => (.array .int)
  | 2 => (.array .int)
  | 3 => (.array (.array .int))
  | 4 => .int
  | 5 => .int
  | _ => .int
theorem nm_H : ∀ a, a < 7 → ∀ b, b < 7 → a ≠ b → (T_H a).2.1 ≠ (T_H b).2.1 := by decide +kernel
theorem ty_H_ok : ∀ k, k < 7 → parseFieldDescriptor (T_H k).2.2.1 = some (ty_H k) := by decide +kernel
theorem in_H : ∀ w ∈ u_ws R_H T_H 7, w ∈ lw_use := by decide +kernel
def R_M : String := "DykeFarmsModel"
def T_M : u_T := fun k => match k with
  | 0 => ("DykeFarmsModel", "thrown", "I", false)
  | 1 => ("DykeFarmsModel", "text", "[I", true)
  | 2 => ("DykeFarmsModel", "textSize", "I", false)
  | 3 => ("DykeFarmsModel", "place", "I", false)
  | 4 => ("DykeFarmsModel", "farms", "I", false)
  | 5 => ("DykeFarmsModel", "grass", "[I", true)
  | 6 => ("DykeFarmsModel", "worth", "[I", true)
  | 7 => ("DykeFarmsModel", "kind", "[I", true)
  | 8 => ("DykeFarmsModel", "readFarms", "I", false)
  | 9 => ("DykeFarmsModel", "readDams", "I", false)
  | 10 => ("DykeFarmsModel", "readFarm", "[I", true)
  | 11 => ("DykeFarmsModel", "page", "[I", true)
  | 12 => ("DykeFarmsModel", "trial", "[I", true)
  | 13 => ("DykeFarmsModel", "book", "[I", true)
  | 14 => ("DykeFarmsModel", "acts", "I", false)
  | 15 => ("DykeFarmsModel", "kept", "[I", true)
  | 16 => ("DykeFarmsModel", "isKept", "[Z", true)
  | 17 => ("DykeFarmsModel", "seed", "J", false)
  | 18 => ("DykeFarmsModel", "placeLoss", "I", false)
  | 19 => ("DykeFarmsModel", "placeHolds", "I", false)
  | 20 => ("DykeFarmsModel", "value", "[I", true)
  | 21 => ("DykeFarmsModel", "cuts", "[I", true)
  | 22 => ("DykeFarmsModel", "restMany", "I", false)
  | _ => ("DykeFarmsModel", "restFirst", "I", false)
def ty_M : Nat → FieldType := fun k => match k with
  | 0 => .int
  | 1 => (.array .int)
  | 2 => .int
  | 3 => .int
  | 4 => .int
  | 5 => (.array .int)
  | 6 => (.array .int)
  | 7 => (.array .int)
  | 8 => .int
  | 9 => .int
  | 10 => (.array .int)
  | 11 => (.array .int)
  | 12 => (.array .int)
  | 13 => (.array .int)
  | 14 => .int
  | 15 => (.array .int)
  | 16 => (.array .boolean)
  | 17 => .long
  | 18 => .int
  | 19 => .int
  | 20 => (.array .int)
  | 21 => (.array .int)
  | 22 => .int
  | _ => .int
theorem nm_M : ∀ a, a < 24 → ∀ b, b < 24 → a ≠ b → (T_M a).2.1 ≠ (T_M b).2.1 := by decide +kernel
theorem ty_M_ok : ∀ k, k < 24 → parseFieldDescriptor (T_M k).2.2.1 = some (ty_M k) := by decide +kernel
theorem in_M : ∀ w ∈ u_ws R_M T_M 24, w ∈ lw_use := by decide +kernel
abbrev g_cl : List vw_C := [(R_D, T_D, 18), (R_S, T_S, 2), (R_H, T_H, 7), (R_M, T_M, 24)]
/-- what the cells hold: ints as nI of numbers (a negative one is 2^32 less something) -/
abbrev g_V : Type := Nat → Nat → Nat
abbrev g_L : Type := Nat → Int64
abbrev g_G : Type := va_G × (ClassId × ClassId × ClassId × ClassId) × (Nat → Nat) × (Nat × Nat)
def g_up (V : g_V) (c k : Nat) (x : Nat) : g_V := fun c' k' => if c' = c ∧ k' = k then x else V c' k'
def g_upL (S : g_L) (c : Nat) (x : Int64) : g_L := fun c' => if c' = c then x else S c'
def g_a (G : g_G) (c : Nat) : Nat := G.2.2.1 c
/-- the cell of the j-th Held: now 0, past 1 .. 14, slots 15, 16; its arrays behind it: high, clay, keeper, owed, the six rows -/
def hB (j : Nat) : Nat := 11 * j + 14
def g_int (G : g_G) (n : Nat) (f : Nat → Nat) : va_E := .inl (G.2.1.1, n, .inl (fun k => nI (f k)))
def g_held (G : g_G) (f : Nat → Nat) (b : Nat) : Nat → va_E
  | 0 => .inr (2, [.ref (g_a G (b + 1)), .ref (g_a G (b + 2)), .ref (g_a G (b + 3)), .ref (g_a G (b + 4)), .int (nI (f 4)), .int (nI (f 5)), .int (nI (f 6))])
  | 4 => .inl (G.2.1.2.2.2, 6, .inr (.inr (.inr (.inr (fun k => some (g_a G (b + (5 + k))))))))
  | _ => g_int G 6 f
def g_mod (G : g_G) (f : Nat → Nat) (z : Int64) : Nat → va_E
  | 0 => .inr (3, [.int (nI (f 0)), .ref (g_a G 202), .int (nI (f 2)), .int (nI (f 3)), .int (nI (f 4)), .ref (g_a G 203), .ref (g_a G 204), .ref (g_a G 205), .int (nI (f 8)), .int (nI (f 9)), .ref (g_a G 206), .ref (g_a G 207), .ref (g_a G 208), .ref (g_a G 209), .int (nI (f 14)), .ref (g_a G 210), .ref (g_a G 211), .long z, .int (nI (f 18)), .int (nI (f 19)), .ref (g_a G 212), .ref (g_a G 213), .int (nI (f 22)), .int (nI (f 23))])
  | 1 => g_int G 48 f
  | 2 => g_int G 6 f
  | 3 => g_int G 6 f
  | 4 => g_int G 6 f
  | 5 => g_int G 30 f
  | 6 => g_int G 57 f
  | 7 => g_int G 57 f
  | 8 => g_int G 798 f
  | 9 => g_int G 114 f
  | 10 => .inl (G.2.1.2.1, 2, .inl (fun k => nI (f k)))
  | 11 => g_int G 64 f
  | _ => g_int G 64 f
def g_E (G : g_G) (f : Nat → Nat) (z : Int64) : Nat → va_E
  | 0 => .inr (0, [.ref (g_a G 1), .int (nI (f 1)), .ref (g_a G 3), .ref (g_a G 4), .ref (g_a G 5), .ref (g_a G (hB 0)), .ref (g_a G 6), .int (nI (f 7)), .int (nI (f 8)), .ref (g_a G 7), .int (nI (f 10)), .long z, .ref (g_a G 8), .ref (g_a G 9), .ref (g_a G 10), .ref (g_a G 11), .ref (g_a G 12), .ref (g_a G 13)])
  | 1 => .inr (1, [.ref (g_a G 2), .int (nI (f 1))])
  | 2 => g_int G 48 f
  | 3 => g_int G 6 f
  | 4 => g_int G 6 f
  | 5 => g_int G 6 f
  | 6 => .inl (G.2.1.2.2.1, 14, .inr (.inr (.inr (.inr (fun k => some (g_a G (hB (1 + k))))))))
  | 7 => .inl (G.2.1.2.2.1, 2, .inr (.inr (.inr (.inr (fun k => some (g_a G (hB (15 + k))))))))
  | 8 => g_int G 6 f
  | 9 => g_int G 5 f
  | 10 => g_int G 7 f
  | 11 => g_int G 64 f
  | 12 => g_int G 64 f
  | 13 => g_int G 64 f
  | n + 14 => if n < 187 then g_held G f (hB (n / 11)) (n % 11) else g_mod G f z (n - 187)
def g_N : Nat := 214
def g_W (G : g_G) (V : g_V) (S : g_L) : va_W := (List.range g_N).map (fun c => (g_a G c, g_E G (V c) (S c) c))
theorem g_W_get {G : g_G} {V : g_V} {S : g_L} {c : Nat} (h : c < g_N) : (g_W G V S)[c]? = some (g_a G c, g_E G (V c) (S c) c) := by
  simp [g_W, h]
theorem g_W_set {G : g_G} {V V' : g_V} {S S' : g_L} {c : Nat} {x : va_E} (hV : ∀ c', c' ≠ c → V' c' = V c' ∧ S' c' = S c') (he : x = g_E G (V' c) (S' c) c) : (g_W G V S).set c (g_a G c, x) = g_W G V' S' := by
  apply List.ext_getElem?
  intro i
  by_cases hi : i = c
  · subst hi
    by_cases hl : i < g_N
    · rw [List.getElem?_set_self (by simp [g_W]; exact hl), g_W_get hl, he]
    · rw [List.getElem?_eq_none (by simp [g_W]; omega), List.getElem?_eq_none (by simp [g_W]; omega)]
  · rw [List.getElem?_set_ne (Ne.symm hi)]
    by_cases hl : i < g_N
    · rw [g_W_get hl, g_W_get hl, (hV i hi).1, (hV i hi).2]
    · rw [List.getElem?_eq_none (by simp [g_W]; omega), List.getElem?_eq_none (by simp [g_W]; omega)]
theorem g_E_held {G : g_G} {f : Nat → Nat} {z : Int64} {j r : Nat} (hj : j < 17) (hr : r < 11) : g_E G f z (hB j + r) = g_held G f (hB j) r := by
  have e : hB j + r = (11 * j + r) + 14 := by unfold hB; omega
  rw [e]
  show (if 11 * j + r < 187 then g_held G f (hB ((11 * j + r) / 11)) ((11 * j + r) % 11) else g_mod G f z (11 * j + r - 187)) = _
  rw [if_pos (by omega), show (11 * j + r) / 11 = j by omega, show (11 * j + r) % 11 = r by omega]
theorem hB_lt {j r : Nat} (hj : j < 17) (hr : r < 11) : hB j + r < g_N := by unfold hB g_N; omega
def g_inj (G : g_G) : Prop := ∀ a b, a < g_N → b < g_N → g_a G a = g_a G b → a = b
def g_A (G : g_G) : Nat → Prop := fun q => ∃ c, c < g_N ∧ q = g_a G c
theorem g_D {G : g_G} {A : Nat → Prop} (hi : g_inj G) (hA : ∀ c, c < g_N → A (g_a G c)) (V : g_V) (S : g_L) : va_D A (g_W G V S) := by
  have hl : ∀ (i : Nat) (p : Nat × va_E), (g_W G V S)[i]? = some p → i < g_N ∧ p.1 = g_a G i := by
    intro i p h
    have h1 : i < g_N := by have := (List.getElem?_eq_some_iff.mp h).1; simpa [g_W] using this
    rw [g_W_get h1] at h
    cases h
    exact ⟨h1, rfl⟩
  refine ⟨fun i j p q h1 h2 e => ?_, fun k q h => ?_⟩
  · obtain ⟨a1, a2⟩ := hl i p h1
    obtain ⟨b1, b2⟩ := hl j q h2
    exact hi i j a1 b1 (by rw [← a2, ← b2]; exact e)
  · obtain ⟨a1, a2⟩ := hl k q h
    rw [a2]
    exact hA k a1
def g_tys (G : g_G) : List (ClassId × FieldType) := [(G.2.1.1, .int), (G.2.1.2.1, .boolean), (G.2.1.2.2.1, .object R_H), (G.2.1.2.2.2, .array .int)]
def g_great : Nat → Nat := fun k => if k = 1 ∨ k = 4 then 3 else 9
def g_ord : Nat → Nat | 0 => 1 | 1 => 1 | 2 => 2 | 3 => 6 | 4 => 24 | 5 => 120 | _ => 720
def g_St (G : g_G) (A : Nat → Prop) (U : State) (H : Heap) : Prop :=
  (va_Z R_D "GREATEST" "[I" (.ref G.2.2.2.1) A U H ∧ va_T .int G.2.2.2.1 5 (fun k => .int (nI (g_great k))) A U H) ∧
  (va_Z R_D "ORDERS" "[I" (.ref G.2.2.2.2) A U H ∧ va_T .int G.2.2.2.2 7 (fun k => .int (nI (g_ord k))) A U H)
theorem g_St.moved {G : g_G} {A : Nat → Prop} {u U : State} {H : Heap} (hvm : u.vm.Alike U.vm) (h : g_St G A u H) : g_St G A U H :=
  ⟨⟨h.1.1.moved hvm, h.1.2.moved hvm⟩, ⟨h.2.1.moved hvm, h.2.2.moved hvm⟩⟩
theorem g_St.kept {G : g_G} {A : Nat → Prop} {U : State} {H H1 : Heap} (h : g_St G A U H) (hq : ∀ a : Nat, a < H.size → ¬ A a → H1[a]? = H[a]?) : g_St G A U H1 :=
  ⟨⟨h.1.1.kept hq, h.1.2.kept hq⟩, ⟨h.2.1.kept hq, h.2.2.kept hq⟩⟩
theorem g_St.narrow {G : g_G} {A B : Nat → Prop} {U : State} {H : Heap} (h : g_St G A U H) (hq : ∀ q, B q → A q) : g_St G B U H :=
  ⟨⟨h.1.1.narrow hq, h.1.2.narrow hq⟩, ⟨h.2.1.narrow hq, h.2.2.narrow hq⟩⟩
/-- locals by their numbers -/
def g_ix : Nat → List (Option Value) → List (Nat × Value)
  | _, [] => []
  | i, none :: r => g_ix (i + 1) r
  | i, some v :: r => (i, v) :: g_ix (i + 1) r
theorem g_ix_mem : ∀ (lv : List (Option Value)) (i : Nat) (q : Nat × Value), q ∈ g_ix i lv ↔ ∃ k, q.1 = i + k ∧ lv[k]? = some (some q.2)
  | [], i, q => by simp [g_ix]
  | none :: r, i, q => by
    rw [show g_ix i (none :: r) = g_ix (i + 1) r from rfl, g_ix_mem r (i + 1) q]
    constructor
    · rintro ⟨k, h1, h2⟩
      exact ⟨k + 1, by omega, by rw [List.getElem?_cons_succ]; exact h2⟩
    · rintro ⟨k, h1, h2⟩
      cases k with
      | zero => rw [List.getElem?_cons_zero] at h2; cases h2
      | succ k => exact ⟨k, by omega, by rw [List.getElem?_cons_succ] at h2; exact h2⟩
  | some v :: r, i, q => by
    rw [show g_ix i (some v :: r) = (i, v) :: g_ix (i + 1) r from rfl, List.mem_cons, g_ix_mem r (i + 1) q]
    constructor
    · rintro (h | ⟨k, h1, h2⟩)
      · subst h; exact ⟨0, rfl, rfl⟩
      · exact ⟨k + 1, by omega, by rw [List.getElem?_cons_succ]; exact h2⟩
    · rintro ⟨k, h1, h2⟩
      cases k with
      | zero =>
        rw [List.getElem?_cons_zero] at h2
        refine Or.inl ?_
        obtain ⟨q1, q2⟩ := q
        simp only [Option.some.injEq] at h2
        simp only at h1
        rw [h1, h2]
        rfl
      | succ k => exact Or.inr ⟨k, by omega, by rw [List.getElem?_cons_succ] at h2; exact h2⟩
def g_lv (c : Code) (ls : Array Slot) (lv : List (Option Value)) : Prop := lv_has ls c.maxLocals (g_ix 0 lv) ∧ lv.length = c.maxLocals
theorem g_lv.at {c : Code} {ls : Array Slot} {lv : List (Option Value)} (h : g_lv c ls lv) {i : Nat} {v : Value} (hv : lv[i]? = some (some v)) : ls[i]? = some (.val v) :=
  h.1.2.2 (i, v) ((g_ix_mem lv 0 (i, v)).mpr ⟨i, by simp, hv⟩)
/-- local i becomes v: the local ahead of it is no long -/
def g_set (i : Nat) (v : Value) (lv lv' : List (Option Value)) : Prop := lv' = lv.set i (some v) ∧ i < lv.length ∧ ∀ (j : Nat) (w : Value), j + 1 = i → lv[j]? = some (some w) → ¬ w.category = 2
def g_set2 (i : Nat) (v : Value) (lv lv' : List (Option Value)) : Prop := lv' = (lv.set i (some v)).set (i + 1) none ∧ i + 1 < lv.length ∧ ∀ (j : Nat) (w : Value), j + 1 = i → lv[j]? = some (some w) → ¬ w.category = 2
theorem g_set.lt {c : Code} {ls : Array Slot} {i : Nat} {v : Value} {lv lv' : List (Option Value)} (h : g_set i v lv lv') (hl : g_lv c ls lv) : i < c.maxLocals := by rw [← hl.2]; exact h.2.1
theorem g_set.to {c : Code} {ls' : Array Slot} {i : Nat} {v : Value} {lv lv' : List (Option Value)} (h : g_set i v lv lv') (hn : lv.length = c.maxLocals) (h' : lv_has ls' c.maxLocals ((i, v) :: (g_ix 0 lv).filter (fun q => !(q.1 == i) && !(q.1 + 1 == i && q.2.category == 2)))) : g_lv c ls' lv' := by
  obtain ⟨e, hi, ho⟩ := h
  subst e
  refine ⟨⟨h'.1, h'.2.1, fun q hq => h'.2.2 q ?_⟩, by rw [List.length_set]; exact hn⟩
  obtain ⟨k, h1, h2⟩ := (g_ix_mem _ 0 q).mp hq
  have h1 : q.1 = k := by omega
  by_cases hk : k = i
  · subst hk
    rw [List.getElem?_set_self hi] at h2
    obtain ⟨q1, q2⟩ := q
    simp only [Option.some.injEq] at h2
    simp only at h1
    rw [h1, ← h2]
    exact List.mem_cons_self
  · rw [List.getElem?_set_ne (Ne.symm hk)] at h2
    refine List.mem_cons_of_mem _ (List.mem_filter.mpr ⟨(g_ix_mem lv 0 q).mpr ⟨k, by omega, h2⟩, ?_⟩)
    by_cases hj : k + 1 = i
    · have := ho k q.2 hj h2
      simp [h1, hk, this]
    · simp [h1, hk, hj]
theorem g_set2.to {c : Code} {ls' : Array Slot} {i : Nat} {v : Value} {lv lv' : List (Option Value)} (h : g_set2 i v lv lv') (hn : lv.length = c.maxLocals) (h' : lv_has ls' c.maxLocals ((i, v) :: (g_ix 0 lv).filter (fun q => !(q.1 == i) && (!(q.1 == i + 1) && !(q.1 + 1 == i && q.2.category == 2))))) : g_lv c ls' lv' := by
  obtain ⟨e, hi, ho⟩ := h
  subst e
  refine ⟨⟨h'.1, h'.2.1, fun q hq => h'.2.2 q ?_⟩, by rw [List.length_set, List.length_set]; exact hn⟩
  obtain ⟨k, h1, h2⟩ := (g_ix_mem _ 0 q).mp hq
  have h1 : q.1 = k := by omega
  by_cases hk2 : k = i + 1
  · subst hk2
    rw [List.getElem?_set_self (by rw [List.length_set]; exact hi)] at h2
    cases h2
  rw [List.getElem?_set_ne (Ne.symm hk2)] at h2
  by_cases hk : k = i
  · subst hk
    rw [List.getElem?_set_self (by omega)] at h2
    obtain ⟨q1, q2⟩ := q
    simp only [Option.some.injEq] at h2
    simp only at h1
    rw [h1, ← h2]
    exact List.mem_cons_self
  · rw [List.getElem?_set_ne (Ne.symm hk)] at h2
    refine List.mem_cons_of_mem _ (List.mem_filter.mpr ⟨(g_ix_mem lv 0 q).mpr ⟨k, by omega, h2⟩, ?_⟩)
    by_cases hj : k + 1 = i
    · have := ho k q.2 hj h2
      simp [h1, hk, hk2, this]
    · simp [h1, hk, hk2, hj]

section LOC
variable {a0 a1 a2 a3 a4 a5 a6 a7 a8 a9 a10 a11 a12 : Option Value} {r : List (Option Value)} {v w : Value}
theorem lg0 : (some v :: r)[0]? = some (some v) := rfl
theorem lg1 : (a0 :: some v :: r)[1]? = some (some v) := rfl
theorem lg2 : (a0 :: a1 :: some v :: r)[2]? = some (some v) := rfl
theorem lg3 : (a0 :: a1 :: a2 :: some v :: r)[3]? = some (some v) := rfl
theorem lg4 : (a0 :: a1 :: a2 :: a3 :: some v :: r)[4]? = some (some v) := rfl
theorem lg5 : (a0 :: a1 :: a2 :: a3 :: a4 :: some v :: r)[5]? = some (some v) := rfl
theorem lg6 : (a0 :: a1 :: a2 :: a3 :: a4 :: a5 :: some v :: r)[6]? = some (some v) := rfl
theorem lg7 : (a0 :: a1 :: a2 :: a3 :: a4 :: a5 :: a6 :: some v :: r)[7]? = some (some v) := rfl
theorem lg8 : (a0 :: a1 :: a2 :: a3 :: a4 :: a5 :: a6 :: a7 :: some v :: r)[8]? = some (some v) := rfl
theorem lg9 : (a0 :: a1 :: a2 :: a3 :: a4 :: a5 :: a6 :: a7 :: a8 :: some v :: r)[9]? = some (some v) := rfl
theorem lg10 : (a0 :: a1 :: a2 :: a3 :: a4 :: a5 :: a6 :: a7 :: a8 :: a9 :: some v :: r)[10]? = some (some v) := rfl
theorem lg11 : (a0 :: a1 :: a2 :: a3 :: a4 :: a5 :: a6 :: a7 :: a8 :: a9 :: a10 :: some v :: r)[11]? = some (some v) := rfl
theorem lg12 : (a0 :: a1 :: a2 :: a3 :: a4 :: a5 :: a6 :: a7 :: a8 :: a9 :: a10 :: a11 :: some v :: r)[12]? = some (some v) := rfl
theorem ls0 : g_set 0 v (a0 :: r) (some v :: r) := ⟨rfl, by simp, fun j w h => by omega⟩
theorem ls1n : g_set 1 v (none :: a1 :: r) (none :: some v :: r) := ⟨rfl, by simp, fun j w h q => by (have e : j = 0 := by omega); subst e; cases q <;> simp [Value.category]⟩
theorem ls1i {x : Int32} : g_set 1 v (some (.int x) :: a1 :: r) (some (.int x) :: some v :: r) := ⟨rfl, by simp, fun j w h q => by (have e : j = 0 := by omega); subst e; cases q <;> simp [Value.category]⟩
theorem ls1r {x : Nat} : g_set 1 v (some (.ref x) :: a1 :: r) (some (.ref x) :: some v :: r) := ⟨rfl, by simp, fun j w h q => by (have e : j = 0 := by omega); subst e; cases q <;> simp [Value.category]⟩
theorem ls2n : g_set 2 v (a0 :: none :: a2 :: r) (a0 :: none :: some v :: r) := ⟨rfl, by simp, fun j w h q => by (have e : j = 1 := by omega); subst e; cases q <;> simp [Value.category]⟩
theorem ls2i {x : Int32} : g_set 2 v (a0 :: some (.int x) :: a2 :: r) (a0 :: some (.int x) :: some v :: r) := ⟨rfl, by simp, fun j w h q => by (have e : j = 1 := by omega); subst e; cases q <;> simp [Value.category]⟩
theorem ls2r {x : Nat} : g_set 2 v (a0 :: some (.ref x) :: a2 :: r) (a0 :: some (.ref x) :: some v :: r) := ⟨rfl, by simp, fun j w h q => by (have e : j = 1 := by omega); subst e; cases q <;> simp [Value.category]⟩
theorem ls3n : g_set 3 v (a0 :: a1 :: none :: a3 :: r) (a0 :: a1 :: none :: some v :: r) := ⟨rfl, by simp, fun j w h q => by (have e : j = 2 := by omega); subst e; cases q <;> simp [Value.category]⟩
theorem ls3i {x : Int32} : g_set 3 v (a0 :: a1 :: some (.int x) :: a3 :: r) (a0 :: a1 :: some (.int x) :: some v :: r) := ⟨rfl, by simp, fun j w h q => by (have e : j = 2 := by omega); subst e; cases q <;> simp [Value.category]⟩
theorem ls3r {x : Nat} : g_set 3 v (a0 :: a1 :: some (.ref x) :: a3 :: r) (a0 :: a1 :: some (.ref x) :: some v :: r) := ⟨rfl, by simp, fun j w h q => by (have e : j = 2 := by omega); subst e; cases q <;> simp [Value.category]⟩
theorem ls4n : g_set 4 v (a0 :: a1 :: a2 :: none :: a4 :: r) (a0 :: a1 :: a2 :: none :: some v :: r) := ⟨rfl, by simp, fun j w h q => by (have e : j = 3 := by omega); subst e; cases q <;> simp [Value.category]⟩
theorem ls4i {x : Int32} : g_set 4 v (a0 :: a1 :: a2 :: some (.int x) :: a4 :: r) (a0 :: a1 :: a2 :: some (.int x) :: some v :: r) := ⟨rfl, by simp, fun j w h q => by (have e : j = 3 := by omega); subst e; cases q <;> simp [Value.category]⟩
theorem ls4r {x : Nat} : g_set 4 v (a0 :: a1 :: a2 :: some (.ref x) :: a4 :: r) (a0 :: a1 :: a2 :: some (.ref x) :: some v :: r) := ⟨rfl, by simp, fun j w h q => by (have e : j = 3 := by omega); subst e; cases q <;> simp [Value.category]⟩
theorem ls5n : g_set 5 v (a0 :: a1 :: a2 :: a3 :: none :: a5 :: r) (a0 :: a1 :: a2 :: a3 :: none :: some v :: r) := ⟨rfl, by simp, fun j w h q => by (have e : j = 4 := by omega); subst e; cases q <;> simp [Value.category]⟩
theorem ls5i {x : Int32} : g_set 5 v (a0 :: a1 :: a2 :: a3 :: some (.int x) :: a5 :: r) (a0 :: a1 :: a2 :: a3 :: some (.int x) :: some v :: r) := ⟨rfl, by simp, fun j w h q => by (have e : j = 4 := by omega); subst e; cases q <;> simp [Value.category]⟩
theorem ls5r {x : Nat} : g_set 5 v (a0 :: a1 :: a2 :: a3 :: some (.ref x) :: a5 :: r) (a0 :: a1 :: a2 :: a3 :: some (.ref x) :: some v :: r) := ⟨rfl, by simp, fun j w h q => by (have e : j = 4 := by omega); subst e; cases q <;> simp [Value.category]⟩
theorem ls6n : g_set 6 v (a0 :: a1 :: a2 :: a3 :: a4 :: none :: a6 :: r) (a0 :: a1 :: a2 :: a3 :: a4 :: none :: some v :: r) := ⟨rfl, by simp, fun j w h q => by (have e : j = 5 := by omega); subst e; cases q <;> simp [Value.category]⟩
theorem ls6i {x : Int32} : g_set 6 v (a0 :: a1 :: a2 :: a3 :: a4 :: some (.int x) :: a6 :: r) (a0 :: a1 :: a2 :: a3 :: a4 :: some (.int x) :: some v :: r) := ⟨rfl, by simp, fun j w h q => by (have e : j = 5 := by omega); subst e; cases q <;> simp [Value.category]⟩
theorem ls6r {x : Nat} : g_set 6 v (a0 :: a1 :: a2 :: a3 :: a4 :: some (.ref x) :: a6 :: r) (a0 :: a1 :: a2 :: a3 :: a4 :: some (.ref x) :: some v :: r) := ⟨rfl, by simp, fun j w h q => by (have e : j = 5 := by omega); subst e; cases q <;> simp [Value.category]⟩
theorem ls7n : g_set 7 v (a0 :: a1 :: a2 :: a3 :: a4 :: a5 :: none :: a7 :: r) (a0 :: a1 :: a2 :: a3 :: a4 :: a5 :: none :: some v :: r) := ⟨rfl, by simp, fun j w h q => by (have e : j = 6 := by omega); subst e; cases q <;> simp [Value.category]⟩
theorem ls7i {x : Int32} : g_set 7 v (a0 :: a1 :: a2 :: a3 :: a4 :: a5 :: some (.int x) :: a7 :: r) (a0 :: a1 :: a2 :: a3 :: a4 :: a5 :: some (.int x) :: some v :: r) := ⟨rfl, by simp, fun j w h q => by (have e : j = 6 := by omega); subst e; cases q <;> simp [Value.category]⟩
theorem ls7r {x : Nat} : g_set 7 v (a0 :: a1 :: a2 :: a3 :: a4 :: a5 :: some (.ref x) :: a7 :: r) (a0 :: a1 :: a2 :: a3 :: a4 :: a5 :: some (.ref x) :: some v :: r) := ⟨rfl, by simp, fun j w h q => by (have e : j = 6 := by omega); subst e; cases q <;> simp [Value.category]⟩
theorem ls8n : g_set 8 v (a0 :: a1 :: a2 :: a3 :: a4 :: a5 :: a6 :: none :: a8 :: r) (a0 :: a1 :: a2 :: a3 :: a4 :: a5 :: a6 :: none :: some v :: r) := ⟨rfl, by simp, fun j w h q => by (have e : j = 7 := by omega); subst e; cases q <;> simp [Value.category]⟩
theorem ls8i {x : Int32} : g_set 8 v (a0 :: a1 :: a2 :: a3 :: a4 :: a5 :: a6 :: some (.int x) :: a8 :: r) (a0 :: a1 :: a2 :: a3 :: a4 :: a5 :: a6 :: some (.int x) :: some v :: r) := ⟨rfl, by simp, fun j w h q => by (have e : j = 7 := by omega); subst e; cases q <;> simp [Value.category]⟩
theorem ls8r {x : Nat} : g_set 8 v (a0 :: a1 :: a2 :: a3 :: a4 :: a5 :: a6 :: some (.ref x) :: a8 :: r) (a0 :: a1 :: a2 :: a3 :: a4 :: a5 :: a6 :: some (.ref x) :: some v :: r) := ⟨rfl, by simp, fun j w h q => by (have e : j = 7 := by omega); subst e; cases q <;> simp [Value.category]⟩
theorem ls9n : g_set 9 v (a0 :: a1 :: a2 :: a3 :: a4 :: a5 :: a6 :: a7 :: none :: a9 :: r) (a0 :: a1 :: a2 :: a3 :: a4 :: a5 :: a6 :: a7 :: none :: some v :: r) := ⟨rfl, by simp, fun j w h q => by (have e : j = 8 := by omega); subst e; cases q <;> simp [Value.category]⟩
theorem ls9i {x : Int32} : g_set 9 v (a0 :: a1 :: a2 :: a3 :: a4 :: a5 :: a6 :: a7 :: some (.int x) :: a9 :: r) (a0 :: a1 :: a2 :: a3 :: a4 :: a5 :: a6 :: a7 :: some (.int x) :: some v :: r) := ⟨rfl, by simp, fun j w h q => by (have e : j = 8 := by omega); subst e; cases q <;> simp [Value.category]⟩
theorem ls9r {x : Nat} : g_set 9 v (a0 :: a1 :: a2 :: a3 :: a4 :: a5 :: a6 :: a7 :: some (.ref x) :: a9 :: r) (a0 :: a1 :: a2 :: a3 :: a4 :: a5 :: a6 :: a7 :: some (.ref x) :: some v :: r) := ⟨rfl, by simp, fun j w h q => by (have e : j = 8 := by omega); subst e; cases q <;> simp [Value.category]⟩
theorem ls10n : g_set 10 v (a0 :: a1 :: a2 :: a3 :: a4 :: a5 :: a6 :: a7 :: a8 :: none :: a10 :: r) (a0 :: a1 :: a2 :: a3 :: a4 :: a5 :: a6 :: a7 :: a8 :: none :: some v :: r) := ⟨rfl, by simp, fun j w h q => by (have e : j = 9 := by omega); subst e; cases q <;> simp [Value.category]⟩
theorem ls10i {x : Int32} : g_set 10 v (a0 :: a1 :: a2 :: a3 :: a4 :: a5 :: a6 :: a7 :: a8 :: some (.int x) :: a10 :: r) (a0 :: a1 :: a2 :: a3 :: a4 :: a5 :: a6 :: a7 :: a8 :: some (.int x) :: some v :: r) := ⟨rfl, by simp, fun j w h q => by (have e : j = 9 := by omega); subst e; cases q <;> simp [Value.category]⟩
theorem ls10r {x : Nat} : g_set 10 v (a0 :: a1 :: a2 :: a3 :: a4 :: a5 :: a6 :: a7 :: a8 :: some (.ref x) :: a10 :: r) (a0 :: a1 :: a2 :: a3 :: a4 :: a5 :: a6 :: a7 :: a8 :: some (.ref x) :: some v :: r) := ⟨rfl, by simp, fun j w h q => by (have e : j = 9 := by omega); subst e; cases q <;> simp [Value.category]⟩
theorem ls11n : g_set 11 v (a0 :: a1 :: a2 :: a3 :: a4 :: a5 :: a6 :: a7 :: a8 :: a9 :: none :: a11 :: r) (a0 :: a1 :: a2 :: a3 :: a4 :: a5 :: a6 :: a7 :: a8 :: a9 :: none :: some v :: r) := ⟨rfl, by simp, fun j w h q => by (have e : j = 10 := by omega); subst e; cases q <;> simp [Value.category]⟩
theorem ls11i {x : Int32} : g_set 11 v (a0 :: a1 :: a2 :: a3 :: a4 :: a5 :: a6 :: a7 :: a8 :: a9 :: some (.int x) :: a11 :: r) (a0 :: a1 :: a2 :: a3 :: a4 :: a5 :: a6 :: a7 :: a8 :: a9 :: some (.int x) :: some v :: r) := ⟨rfl, by simp, fun j w h q => by (have e : j = 10 := by omega); subst e; cases q <;> simp [Value.category]⟩
theorem ls11r {x : Nat} : g_set 11 v (a0 :: a1 :: a2 :: a3 :: a4 :: a5 :: a6 :: a7 :: a8 :: a9 :: some (.ref x) :: a11 :: r) (a0 :: a1 :: a2 :: a3 :: a4 :: a5 :: a6 :: a7 :: a8 :: a9 :: some (.ref x) :: some v :: r) := ⟨rfl, by simp, fun j w h q => by (have e : j = 10 := by omega); subst e; cases q <;> simp [Value.category]⟩
theorem ls12n : g_set 12 v (a0 :: a1 :: a2 :: a3 :: a4 :: a5 :: a6 :: a7 :: a8 :: a9 :: a10 :: none :: a12 :: r) (a0 :: a1 :: a2 :: a3 :: a4 :: a5 :: a6 :: a7 :: a8 :: a9 :: a10 :: none :: some v :: r) := ⟨rfl, by simp, fun j w h q => by (have e : j = 11 := by omega); subst e; cases q <;> simp [Value.category]⟩
theorem ls12i {x : Int32} : g_set 12 v (a0 :: a1 :: a2 :: a3 :: a4 :: a5 :: a6 :: a7 :: a8 :: a9 :: a10 :: some (.int x) :: a12 :: r) (a0 :: a1 :: a2 :: a3 :: a4 :: a5 :: a6 :: a7 :: a8 :: a9 :: a10 :: some (.int x) :: some v :: r) := ⟨rfl, by simp, fun j w h q => by (have e : j = 11 := by omega); subst e; cases q <;> simp [Value.category]⟩
theorem ls12r {x : Nat} : g_set 12 v (a0 :: a1 :: a2 :: a3 :: a4 :: a5 :: a6 :: a7 :: a8 :: a9 :: a10 :: some (.ref x) :: a12 :: r) (a0 :: a1 :: a2 :: a3 :: a4 :: a5 :: a6 :: a7 :: a8 :: a9 :: a10 :: some (.ref x) :: some v :: r) := ⟨rfl, by simp, fun j w h q => by (have e : j = 11 := by omega); subst e; cases q <;> simp [Value.category]⟩
theorem lt1n : g_set2 1 v (none :: a1 :: a2 :: r) (none :: some v :: none :: r) := ⟨rfl, by simp, fun j w h q => by (have e : j = 0 := by omega); subst e; cases q <;> simp [Value.category]⟩
theorem lt1i {x : Int32} : g_set2 1 v (some (.int x) :: a1 :: a2 :: r) (some (.int x) :: some v :: none :: r) := ⟨rfl, by simp, fun j w h q => by (have e : j = 0 := by omega); subst e; cases q <;> simp [Value.category]⟩
theorem lt1r {x : Nat} : g_set2 1 v (some (.ref x) :: a1 :: a2 :: r) (some (.ref x) :: some v :: none :: r) := ⟨rfl, by simp, fun j w h q => by (have e : j = 0 := by omega); subst e; cases q <;> simp [Value.category]⟩
theorem lt2n : g_set2 2 v (a0 :: none :: a2 :: a3 :: r) (a0 :: none :: some v :: none :: r) := ⟨rfl, by simp, fun j w h q => by (have e : j = 1 := by omega); subst e; cases q <;> simp [Value.category]⟩
theorem lt2i {x : Int32} : g_set2 2 v (a0 :: some (.int x) :: a2 :: a3 :: r) (a0 :: some (.int x) :: some v :: none :: r) := ⟨rfl, by simp, fun j w h q => by (have e : j = 1 := by omega); subst e; cases q <;> simp [Value.category]⟩
theorem lt2r {x : Nat} : g_set2 2 v (a0 :: some (.ref x) :: a2 :: a3 :: r) (a0 :: some (.ref x) :: some v :: none :: r) := ⟨rfl, by simp, fun j w h q => by (have e : j = 1 := by omega); subst e; cases q <;> simp [Value.category]⟩
theorem lt3n : g_set2 3 v (a0 :: a1 :: none :: a3 :: a4 :: r) (a0 :: a1 :: none :: some v :: none :: r) := ⟨rfl, by simp, fun j w h q => by (have e : j = 2 := by omega); subst e; cases q <;> simp [Value.category]⟩
theorem lt3i {x : Int32} : g_set2 3 v (a0 :: a1 :: some (.int x) :: a3 :: a4 :: r) (a0 :: a1 :: some (.int x) :: some v :: none :: r) := ⟨rfl, by simp, fun j w h q => by (have e : j = 2 := by omega); subst e; cases q <;> simp [Value.category]⟩
theorem lt3r {x : Nat} : g_set2 3 v (a0 :: a1 :: some (.ref x) :: a3 :: a4 :: r) (a0 :: a1 :: some (.ref x) :: some v :: none :: r) := ⟨rfl, by simp, fun j w h q => by (have e : j = 2 := by omega); subst e; cases q <;> simp [Value.category]⟩
theorem lt4n : g_set2 4 v (a0 :: a1 :: a2 :: none :: a4 :: a5 :: r) (a0 :: a1 :: a2 :: none :: some v :: none :: r) := ⟨rfl, by simp, fun j w h q => by (have e : j = 3 := by omega); subst e; cases q <;> simp [Value.category]⟩
theorem lt4i {x : Int32} : g_set2 4 v (a0 :: a1 :: a2 :: some (.int x) :: a4 :: a5 :: r) (a0 :: a1 :: a2 :: some (.int x) :: some v :: none :: r) := ⟨rfl, by simp, fun j w h q => by (have e : j = 3 := by omega); subst e; cases q <;> simp [Value.category]⟩
theorem lt4r {x : Nat} : g_set2 4 v (a0 :: a1 :: a2 :: some (.ref x) :: a4 :: a5 :: r) (a0 :: a1 :: a2 :: some (.ref x) :: some v :: none :: r) := ⟨rfl, by simp, fun j w h q => by (have e : j = 3 := by omega); subst e; cases q <;> simp [Value.category]⟩
theorem lt5n : g_set2 5 v (a0 :: a1 :: a2 :: a3 :: none :: a5 :: a6 :: r) (a0 :: a1 :: a2 :: a3 :: none :: some v :: none :: r) := ⟨rfl, by simp, fun j w h q => by (have e : j = 4 := by omega); subst e; cases q <;> simp [Value.category]⟩
theorem lt5i {x : Int32} : g_set2 5 v (a0 :: a1 :: a2 :: a3 :: some (.int x) :: a5 :: a6 :: r) (a0 :: a1 :: a2 :: a3 :: some (.int x) :: some v :: none :: r) := ⟨rfl, by simp, fun j w h q => by (have e : j = 4 := by omega); subst e; cases q <;> simp [Value.category]⟩
theorem lt5r {x : Nat} : g_set2 5 v (a0 :: a1 :: a2 :: a3 :: some (.ref x) :: a5 :: a6 :: r) (a0 :: a1 :: a2 :: a3 :: some (.ref x) :: some v :: none :: r) := ⟨rfl, by simp, fun j w h q => by (have e : j = 4 := by omega); subst e; cases q <;> simp [Value.category]⟩
theorem lt6n : g_set2 6 v (a0 :: a1 :: a2 :: a3 :: a4 :: none :: a6 :: a7 :: r) (a0 :: a1 :: a2 :: a3 :: a4 :: none :: some v :: none :: r) := ⟨rfl, by simp, fun j w h q => by (have e : j = 5 := by omega); subst e; cases q <;> simp [Value.category]⟩
theorem lt6i {x : Int32} : g_set2 6 v (a0 :: a1 :: a2 :: a3 :: a4 :: some (.int x) :: a6 :: a7 :: r) (a0 :: a1 :: a2 :: a3 :: a4 :: some (.int x) :: some v :: none :: r) := ⟨rfl, by simp, fun j w h q => by (have e : j = 5 := by omega); subst e; cases q <;> simp [Value.category]⟩
theorem lt6r {x : Nat} : g_set2 6 v (a0 :: a1 :: a2 :: a3 :: a4 :: some (.ref x) :: a6 :: a7 :: r) (a0 :: a1 :: a2 :: a3 :: a4 :: some (.ref x) :: some v :: none :: r) := ⟨rfl, by simp, fun j w h q => by (have e : j = 5 := by omega); subst e; cases q <;> simp [Value.category]⟩
theorem lt7n : g_set2 7 v (a0 :: a1 :: a2 :: a3 :: a4 :: a5 :: none :: a7 :: a8 :: r) (a0 :: a1 :: a2 :: a3 :: a4 :: a5 :: none :: some v :: none :: r) := ⟨rfl, by simp, fun j w h q => by (have e : j = 6 := by omega); subst e; cases q <;> simp [Value.category]⟩
theorem lt7i {x : Int32} : g_set2 7 v (a0 :: a1 :: a2 :: a3 :: a4 :: a5 :: some (.int x) :: a7 :: a8 :: r) (a0 :: a1 :: a2 :: a3 :: a4 :: a5 :: some (.int x) :: some v :: none :: r) := ⟨rfl, by simp, fun j w h q => by (have e : j = 6 := by omega); subst e; cases q <;> simp [Value.category]⟩
theorem lt7r {x : Nat} : g_set2 7 v (a0 :: a1 :: a2 :: a3 :: a4 :: a5 :: some (.ref x) :: a7 :: a8 :: r) (a0 :: a1 :: a2 :: a3 :: a4 :: a5 :: some (.ref x) :: some v :: none :: r) := ⟨rfl, by simp, fun j w h q => by (have e : j = 6 := by omega); subst e; cases q <;> simp [Value.category]⟩
theorem lt8n : g_set2 8 v (a0 :: a1 :: a2 :: a3 :: a4 :: a5 :: a6 :: none :: a8 :: a9 :: r) (a0 :: a1 :: a2 :: a3 :: a4 :: a5 :: a6 :: none :: some v :: none :: r) := ⟨rfl, by simp, fun j w h q => by (have e : j = 7 := by omega); subst e; cases q <;> simp [Value.category]⟩
theorem lt8i {x : Int32} : g_set2 8 v (a0 :: a1 :: a2 :: a3 :: a4 :: a5 :: a6 :: some (.int x) :: a8 :: a9 :: r) (a0 :: a1 :: a2 :: a3 :: a4 :: a5 :: a6 :: some (.int x) :: some v :: none :: r) := ⟨rfl, by simp, fun j w h q => by (have e : j = 7 := by omega); subst e; cases q <;> simp [Value.category]⟩
theorem lt8r {x : Nat} : g_set2 8 v (a0 :: a1 :: a2 :: a3 :: a4 :: a5 :: a6 :: some (.ref x) :: a8 :: a9 :: r) (a0 :: a1 :: a2 :: a3 :: a4 :: a5 :: a6 :: some (.ref x) :: some v :: none :: r) := ⟨rfl, by simp, fun j w h q => by (have e : j = 7 := by omega); subst e; cases q <;> simp [Value.category]⟩
theorem lt9n : g_set2 9 v (a0 :: a1 :: a2 :: a3 :: a4 :: a5 :: a6 :: a7 :: none :: a9 :: a10 :: r) (a0 :: a1 :: a2 :: a3 :: a4 :: a5 :: a6 :: a7 :: none :: some v :: none :: r) := ⟨rfl, by simp, fun j w h q => by (have e : j = 8 := by omega); subst e; cases q <;> simp [Value.category]⟩
theorem lt9i {x : Int32} : g_set2 9 v (a0 :: a1 :: a2 :: a3 :: a4 :: a5 :: a6 :: a7 :: some (.int x) :: a9 :: a10 :: r) (a0 :: a1 :: a2 :: a3 :: a4 :: a5 :: a6 :: a7 :: some (.int x) :: some v :: none :: r) := ⟨rfl, by simp, fun j w h q => by (have e : j = 8 := by omega); subst e; cases q <;> simp [Value.category]⟩
theorem lt9r {x : Nat} : g_set2 9 v (a0 :: a1 :: a2 :: a3 :: a4 :: a5 :: a6 :: a7 :: some (.ref x) :: a9 :: a10 :: r) (a0 :: a1 :: a2 :: a3 :: a4 :: a5 :: a6 :: a7 :: some (.ref x) :: some v :: none :: r) := ⟨rfl, by simp, fun j w h q => by (have e : j = 8 := by omega); subst e; cases q <;> simp [Value.category]⟩
theorem lt10n : g_set2 10 v (a0 :: a1 :: a2 :: a3 :: a4 :: a5 :: a6 :: a7 :: a8 :: none :: a10 :: a11 :: r) (a0 :: a1 :: a2 :: a3 :: a4 :: a5 :: a6 :: a7 :: a8 :: none :: some v :: none :: r) := ⟨rfl, by simp, fun j w h q => by (have e : j = 9 := by omega); subst e; cases q <;> simp [Value.category]⟩
theorem lt10i {x : Int32} : g_set2 10 v (a0 :: a1 :: a2 :: a3 :: a4 :: a5 :: a6 :: a7 :: a8 :: some (.int x) :: a10 :: a11 :: r) (a0 :: a1 :: a2 :: a3 :: a4 :: a5 :: a6 :: a7 :: a8 :: some (.int x) :: some v :: none :: r) := ⟨rfl, by simp, fun j w h q => by (have e : j = 9 := by omega); subst e; cases q <;> simp [Value.category]⟩
theorem lt10r {x : Nat} : g_set2 10 v (a0 :: a1 :: a2 :: a3 :: a4 :: a5 :: a6 :: a7 :: a8 :: some (.ref x) :: a10 :: a11 :: r) (a0 :: a1 :: a2 :: a3 :: a4 :: a5 :: a6 :: a7 :: a8 :: some (.ref x) :: some v :: none :: r) := ⟨rfl, by simp, fun j w h q => by (have e : j = 9 := by omega); subst e; cases q <;> simp [Value.category]⟩
end LOC
/-- what a walk's context says: the caller's frame, the machine, the room, what the end wants -/
abbrev g_X : Type := Launch × Room × Option FieldType × (Nat → Prop) × (Nat × Nat) × (Program → Env → State → MethodId → Array Value → List Frame → Method → Code → (State → Prop) → Prop)
def g_Cx (G : g_G) (X : g_X) (p : Program) (s : State) (m : MethodId) (args : Array Value) (meth : Method) (c : Code) (cc : ByteArray) (own : String) : Prop :=
  p.tables.exec = Jvm.exec ∧ c.code = cc ∧ s.vm.findClass own = some m.cls ∧ (∀ w ∈ lw_use, w.before args s = true) ∧ va_K G.1 g_cl (g_tys G) s ∧ g_inj G ∧ (∀ c, c < g_N → X.2.2.2.1 (g_a G c)) ∧ g_St G X.2.2.2.1 s s.heap ∧ meth.locks = false ∧ meth.sig.returnType = X.2.2.1
def JW (G : g_G) (X : g_X) (cc : ByteArray) (own : String) (pc : Nat) (lv : List (Option Value)) (st : List Value) (V : g_V) (S : g_L) : Prop :=
  ∀ (p : Program) (e : Env) (s : State) (m : MethodId) (args : Array Value) (below : List Frame) (meth : Method) (c : Code) (Q : State → Prop), g_Cx G X p s m args meth c cc own → X.2.2.2.2.2 p e s m args below meth c Q →
    ∀ (H : Heap) (locs : List Loc) (ls : Array Slot), g_lv c ls lv → va_P G.1 g_cl (g_W G V S) H → va_S X.2.2.2.1 s.heap H locs →
      W p X.1 e X.2.1 s m args below meth c H locs X.2.2.2.2.1.1 X.2.2.2.2.1.2 Q (F0 m pc ls st)
section JWR
variable {G : g_G} {X : g_X} {cc : ByteArray} {own : String} {pc : Nat} {lv lv' : List (Option Value)} {st : List Value} {V : g_V} {S : g_L}
theorem j_iconst {n : Int} {v : Int32} (hd : decode cc pc = .ok (.iconst n, 1)) (hv : Int32.ofInt n = v) (kk : JW G X cc own (pc + 1) lv (.int v :: st) V S) : JW G X cc own pc lv st V S :=
  fun p e s m args below meth c Q C K H locs ls hl hP hS => lv_iconst C.1 C.2.1 hd hv (kk p e s m args below meth c Q C K H locs ls hl hP hS)
theorem j_bipush {n : Int} {v : Int32} (hd : decode cc pc = .ok (.bipush n, 2)) (hv : (Int8.ofInt n).toInt32 = v) (kk : JW G X cc own (pc + 2) lv (.int v :: st) V S) : JW G X cc own pc lv st V S :=
  fun p e s m args below meth c Q C K H locs ls hl hP hS => lv_bipush C.1 C.2.1 hd hv (kk p e s m args below meth c Q C K H locs ls hl hP hS)
theorem j_sipush {n : Int} {v : Int32} (hd : decode cc pc = .ok (.sipush n, 3)) (hv : (Int16.ofInt n).toInt32 = v) (kk : JW G X cc own (pc + 3) lv (.int v :: st) V S) : JW G X cc own pc lv st V S :=
  fun p e s m args below meth c Q C K H locs ls hl hP hS => lv_sipush C.1 C.2.1 hd hv (kk p e s m args below meth c Q C K H locs ls hl hP hS)
theorem j_lconst {n : Fin 2} {v : Int64} (hd : decode cc pc = .ok (.lconst n, 1)) (hv : Int64.ofNat (n : Nat) = v) (kk : JW G X cc own (pc + 1) lv (.long v :: st) V S) : JW G X cc own pc lv st V S :=
  fun p e s m args below meth c Q C K H locs ls hl hP hS => lv_lconst C.1 C.2.1 hd hv (kk p e s m args below meth c Q C K H locs ls hl hP hS)
theorem j_ldc {i : Nat} {v : Int32} (hd : decode cc pc = .ok (.ldc i, 2)) (hw : Cond.constant own i v ∈ lw_use) (kk : JW G X cc own (pc + 2) lv (.int v :: st) V S) : JW G X cc own pc lv st V S :=
  fun p e s m args below meth c Q C K H locs ls hl hP hS => lv_ldc C.1 C.2.1 C.2.2.1 (C.2.2.2.1 _ hw) hd (kk p e s m args below meth c Q C K H locs ls hl hP hS)
theorem j_ldc2 {i : Nat} {v : Int64} (hd : decode cc pc = .ok (.ldc2_w i, 3)) (hw : Cond.constantLong own i v ∈ lw_use) (kk : JW G X cc own (pc + 3) lv (.long v :: st) V S) : JW G X cc own pc lv st V S :=
  fun p e s m args below meth c Q C K H locs ls hl hP hS => lv_ldc2 C.1 C.2.1 C.2.2.1 (C.2.2.2.1 _ hw) hd (kk p e s m args below meth c Q C K H locs ls hl hP hS)
theorem j_iload_n {k : Fin 4} {i : Nat} {x : Int32} (hd : decode cc pc = .ok (.iload_n k, 1)) (hi : (k : Nat) = i) (hv : lv[i]? = some (some (.int x))) (kk : JW G X cc own (pc + 1) lv (.int x :: st) V S) : JW G X cc own pc lv st V S :=
  fun p e s m args below meth c Q C K H locs ls hl hP hS => lv_iload_n C.1 C.2.1 hd hi (hl.at hv) (kk p e s m args below meth c Q C K H locs ls hl hP hS)
theorem j_iload {i : Nat} {x : Int32} (hd : decode cc pc = .ok (.iload i, 2)) (hv : lv[i]? = some (some (.int x))) (kk : JW G X cc own (pc + 2) lv (.int x :: st) V S) : JW G X cc own pc lv st V S :=
  fun p e s m args below meth c Q C K H locs ls hl hP hS => lv_iload C.1 C.2.1 hd (hl.at hv) (kk p e s m args below meth c Q C K H locs ls hl hP hS)
theorem j_lload_n {k : Fin 4} {i : Nat} {x : Int64} (hd : decode cc pc = .ok (.lload_n k, 1)) (hi : (k : Nat) = i) (hv : lv[i]? = some (some (.long x))) (kk : JW G X cc own (pc + 1) lv (.long x :: st) V S) : JW G X cc own pc lv st V S :=
  fun p e s m args below meth c Q C K H locs ls hl hP hS => lv_lload_n C.1 C.2.1 hd hi (hl.at hv) (kk p e s m args below meth c Q C K H locs ls hl hP hS)
theorem j_lload {i : Nat} {x : Int64} (hd : decode cc pc = .ok (.lload i, 2)) (hv : lv[i]? = some (some (.long x))) (kk : JW G X cc own (pc + 2) lv (.long x :: st) V S) : JW G X cc own pc lv st V S :=
  fun p e s m args below meth c Q C K H locs ls hl hP hS => lv_lload C.1 C.2.1 hd (hl.at hv) (kk p e s m args below meth c Q C K H locs ls hl hP hS)
theorem j_aload_n {k : Fin 4} {i : Nat} {x : Nat} (hd : decode cc pc = .ok (.aload_n k, 1)) (hi : (k : Nat) = i) (hv : lv[i]? = some (some (.ref x))) (kk : JW G X cc own (pc + 1) lv (.ref x :: st) V S) : JW G X cc own pc lv st V S :=
  fun p e s m args below meth c Q C K H locs ls hl hP hS => lv_aload_n C.1 C.2.1 hd hi (hl.at hv) (kk p e s m args below meth c Q C K H locs ls hl hP hS)
theorem j_aload {i : Nat} {x : Nat} (hd : decode cc pc = .ok (.aload i, 2)) (hv : lv[i]? = some (some (.ref x))) (kk : JW G X cc own (pc + 2) lv (.ref x :: st) V S) : JW G X cc own pc lv st V S :=
  fun p e s m args below meth c Q C K H locs ls hl hP hS => lv_aload C.1 C.2.1 hd (hl.at hv) (kk p e s m args below meth c Q C K H locs ls hl hP hS)
theorem j_istore_n {k : Fin 4} {i : Nat} {x : Int32} (hd : decode cc pc = .ok (.istore_n k, 1)) (hi : (k : Nat) = i) (hs : g_set i (.int x) lv lv') (kk : JW G X cc own (pc + 1) lv' st V S) : JW G X cc own pc lv (.int x :: st) V S :=
  fun p e s m args below meth c Q C K H locs ls hl hP hS => lv_istore_n C.1 C.2.1 hd hi hl.1 (hs.lt hl) rfl (fun ls' h' => kk p e s m args below meth c Q C K H locs ls' (hs.to hl.2 h') hP hS)
theorem j_istore {i : Nat} {x : Int32} (hd : decode cc pc = .ok (.istore i, 2)) (hs : g_set i (.int x) lv lv') (kk : JW G X cc own (pc + 2) lv' st V S) : JW G X cc own pc lv (.int x :: st) V S :=
  fun p e s m args below meth c Q C K H locs ls hl hP hS => lv_istore C.1 C.2.1 hd hl.1 (hs.lt hl) rfl (fun ls' h' => kk p e s m args below meth c Q C K H locs ls' (hs.to hl.2 h') hP hS)
theorem j_astore_n {k : Fin 4} {i : Nat} {x : Nat} (hd : decode cc pc = .ok (.astore_n k, 1)) (hi : (k : Nat) = i) (hs : g_set i (.ref x) lv lv') (kk : JW G X cc own (pc + 1) lv' st V S) : JW G X cc own pc lv (.ref x :: st) V S :=
  fun p e s m args below meth c Q C K H locs ls hl hP hS => lv_astore_n C.1 C.2.1 hd hi hl.1 (hs.lt hl) rfl (fun ls' h' => kk p e s m args below meth c Q C K H locs ls' (hs.to hl.2 h') hP hS)
theorem j_astore {i : Nat} {x : Nat} (hd : decode cc pc = .ok (.astore i, 2)) (hs : g_set i (.ref x) lv lv') (kk : JW G X cc own (pc + 2) lv' st V S) : JW G X cc own pc lv (.ref x :: st) V S :=
  fun p e s m args below meth c Q C K H locs ls hl hP hS => lv_astore C.1 C.2.1 hd hl.1 (hs.lt hl) rfl (fun ls' h' => kk p e s m args below meth c Q C K H locs ls' (hs.to hl.2 h') hP hS)
theorem j_lstore_n {k : Fin 4} {i : Nat} {x : Int64} (hd : decode cc pc = .ok (.lstore_n k, 1)) (hi : (k : Nat) = i) (hs : g_set2 i (.long x) lv lv') (kk : JW G X cc own (pc + 1) lv' st V S) : JW G X cc own pc lv (.long x :: st) V S :=
  fun p e s m args below meth c Q C K H locs ls hl hP hS => lv_lstore_n C.1 C.2.1 hd hi hl.1 (by rw [← hl.2]; exact hs.2.1) rfl (fun ls' h' => kk p e s m args below meth c Q C K H locs ls' (hs.to hl.2 h') hP hS)
theorem j_lstore {i : Nat} {x : Int64} (hd : decode cc pc = .ok (.lstore i, 2)) (hs : g_set2 i (.long x) lv lv') (kk : JW G X cc own (pc + 2) lv' st V S) : JW G X cc own pc lv (.long x :: st) V S :=
  fun p e s m args below meth c Q C K H locs ls hl hP hS => lv_lstore C.1 C.2.1 hd hl.1 (by rw [← hl.2]; exact hs.2.1) rfl (fun ls' h' => kk p e s m args below meth c Q C K H locs ls' (hs.to hl.2 h') hP hS)
theorem g_pos {lv : List (Option Value)} {i : Nat} {v : Value} (hv : lv[i]? = some (some v)) : ∃ k : Nat, (g_ix 0 lv)[k]? = some (i, v) := by
  have h : (i, v) ∈ g_ix 0 lv := (g_ix_mem lv 0 (i, v)).mpr ⟨i, by simp, hv⟩
  exact List.getElem?_of_mem h
theorem j_iinc {i : Nat} {n : Int} {x v : Int32} (hd : decode cc pc = .ok (.iinc i n, 3)) (hv : lv[i]? = some (some (.int x))) (hx : x + Int32.ofInt n = v) (hs : g_set i (.int v) lv lv') (kk : JW G X cc own (pc + 3) lv' st V S) : JW G X cc own pc lv st V S := by
  intro p e s m args below meth c Q C K H locs ls hl hP hS
  obtain ⟨k, hk⟩ := g_pos hv
  exact lv_iinc C.1 C.2.1 hd hl.1 hk hx (hs.lt hl) rfl (fun ls' h' => kk p e s m args below meth c Q C K H locs ls' (hs.to hl.2 h') hP hS)
theorem j_iadd {x y : Int32} (hd : decode cc pc = .ok (.iadd, 1)) (kk : JW G X cc own (pc + 1) lv (.int (x + y) :: st) V S) : JW G X cc own pc lv (.int y :: .int x :: st) V S :=
  fun p e s m args below meth c Q C K H locs ls hl hP hS => lv_iadd C.1 C.2.1 hd (kk p e s m args below meth c Q C K H locs ls hl hP hS)
theorem j_isub {x y : Int32} (hd : decode cc pc = .ok (.isub, 1)) (kk : JW G X cc own (pc + 1) lv (.int (x - y) :: st) V S) : JW G X cc own pc lv (.int y :: .int x :: st) V S :=
  fun p e s m args below meth c Q C K H locs ls hl hP hS => lv_isub C.1 C.2.1 hd (kk p e s m args below meth c Q C K H locs ls hl hP hS)
theorem j_imul {x y : Int32} (hd : decode cc pc = .ok (.imul, 1)) (kk : JW G X cc own (pc + 1) lv (.int (x * y) :: st) V S) : JW G X cc own pc lv (.int y :: .int x :: st) V S :=
  fun p e s m args below meth c Q C K H locs ls hl hP hS => lv_imul C.1 C.2.1 hd (kk p e s m args below meth c Q C K H locs ls hl hP hS)
theorem j_iand {x y : Int32} (hd : decode cc pc = .ok (.iand, 1)) (kk : JW G X cc own (pc + 1) lv (.int (x &&& y) :: st) V S) : JW G X cc own pc lv (.int y :: .int x :: st) V S :=
  fun p e s m args below meth c Q C K H locs ls hl hP hS => lv_iand C.1 C.2.1 hd (kk p e s m args below meth c Q C K H locs ls hl hP hS)
theorem j_ior {x y : Int32} (hd : decode cc pc = .ok (.ior, 1)) (kk : JW G X cc own (pc + 1) lv (.int (x ||| y) :: st) V S) : JW G X cc own pc lv (.int y :: .int x :: st) V S :=
  fun p e s m args below meth c Q C K H locs ls hl hP hS => lv_ior C.1 C.2.1 hd (kk p e s m args below meth c Q C K H locs ls hl hP hS)
theorem j_ixor {x y : Int32} (hd : decode cc pc = .ok (.ixor, 1)) (kk : JW G X cc own (pc + 1) lv (.int (x ^^^ y) :: st) V S) : JW G X cc own pc lv (.int y :: .int x :: st) V S :=
  fun p e s m args below meth c Q C K H locs ls hl hP hS => lv_ixor C.1 C.2.1 hd (kk p e s m args below meth c Q C K H locs ls hl hP hS)
theorem j_ishl {x y : Int32} (hd : decode cc pc = .ok (.ishl, 1)) (kk : JW G X cc own (pc + 1) lv (.int (x <<< (y &&& 31)) :: st) V S) : JW G X cc own pc lv (.int y :: .int x :: st) V S :=
  fun p e s m args below meth c Q C K H locs ls hl hP hS => lv_ishl C.1 C.2.1 hd (kk p e s m args below meth c Q C K H locs ls hl hP hS)
theorem j_ishr {x y : Int32} (hd : decode cc pc = .ok (.ishr, 1)) (kk : JW G X cc own (pc + 1) lv (.int (x >>> (y &&& 31)) :: st) V S) : JW G X cc own pc lv (.int y :: .int x :: st) V S :=
  fun p e s m args below meth c Q C K H locs ls hl hP hS => lv_ishr C.1 C.2.1 hd (kk p e s m args below meth c Q C K H locs ls hl hP hS)
theorem j_ladd {x y : Int64} (hd : decode cc pc = .ok (.ladd, 1)) (kk : JW G X cc own (pc + 1) lv (.long (x + y) :: st) V S) : JW G X cc own pc lv (.long y :: .long x :: st) V S :=
  fun p e s m args below meth c Q C K H locs ls hl hP hS => lv_ladd C.1 C.2.1 hd (kk p e s m args below meth c Q C K H locs ls hl hP hS)
theorem j_lsub {x y : Int64} (hd : decode cc pc = .ok (.lsub, 1)) (kk : JW G X cc own (pc + 1) lv (.long (x - y) :: st) V S) : JW G X cc own pc lv (.long y :: .long x :: st) V S :=
  fun p e s m args below meth c Q C K H locs ls hl hP hS => lv_lsub C.1 C.2.1 hd (kk p e s m args below meth c Q C K H locs ls hl hP hS)
theorem j_lmul {x y : Int64} (hd : decode cc pc = .ok (.lmul, 1)) (kk : JW G X cc own (pc + 1) lv (.long (x * y) :: st) V S) : JW G X cc own pc lv (.long y :: .long x :: st) V S :=
  fun p e s m args below meth c Q C K H locs ls hl hP hS => lv_lmul C.1 C.2.1 hd (kk p e s m args below meth c Q C K H locs ls hl hP hS)
theorem j_land {x y : Int64} (hd : decode cc pc = .ok (.land, 1)) (kk : JW G X cc own (pc + 1) lv (.long (x &&& y) :: st) V S) : JW G X cc own pc lv (.long y :: .long x :: st) V S :=
  fun p e s m args below meth c Q C K H locs ls hl hP hS => lv_land C.1 C.2.1 hd (kk p e s m args below meth c Q C K H locs ls hl hP hS)
theorem j_lor {x y : Int64} (hd : decode cc pc = .ok (.lor, 1)) (kk : JW G X cc own (pc + 1) lv (.long (x ||| y) :: st) V S) : JW G X cc own pc lv (.long y :: .long x :: st) V S :=
  fun p e s m args below meth c Q C K H locs ls hl hP hS => lv_lor C.1 C.2.1 hd (kk p e s m args below meth c Q C K H locs ls hl hP hS)
theorem j_idiv {x y : Int32} (hd : decode cc pc = .ok (.idiv, 1)) (hne : ¬ y = 0) (kk : JW G X cc own (pc + 1) lv (.int (x / y) :: st) V S) : JW G X cc own pc lv (.int y :: .int x :: st) V S :=
  fun p e s m args below meth c Q C K H locs ls hl hP hS => lv_idiv C.1 C.2.1 hd hne (kk p e s m args below meth c Q C K H locs ls hl hP hS)
theorem j_irem {x y : Int32} (hd : decode cc pc = .ok (.irem, 1)) (hne : ¬ y = 0) (kk : JW G X cc own (pc + 1) lv (.int (x - x / y * y) :: st) V S) : JW G X cc own pc lv (.int y :: .int x :: st) V S :=
  fun p e s m args below meth c Q C K H locs ls hl hP hS => lv_irem C.1 C.2.1 hd hne (kk p e s m args below meth c Q C K H locs ls hl hP hS)
theorem j_ldiv {x y : Int64} (hd : decode cc pc = .ok (.ldiv, 1)) (hne : ¬ y = 0) (kk : JW G X cc own (pc + 1) lv (.long (x / y) :: st) V S) : JW G X cc own pc lv (.long y :: .long x :: st) V S :=
  fun p e s m args below meth c Q C K H locs ls hl hP hS => lv_ldiv C.1 C.2.1 hd hne (kk p e s m args below meth c Q C K H locs ls hl hP hS)
theorem j_lrem {x y : Int64} (hd : decode cc pc = .ok (.lrem, 1)) (hne : ¬ y = 0) (kk : JW G X cc own (pc + 1) lv (.long (x - x / y * y) :: st) V S) : JW G X cc own pc lv (.long y :: .long x :: st) V S :=
  fun p e s m args below meth c Q C K H locs ls hl hP hS => lv_lrem C.1 C.2.1 hd hne (kk p e s m args below meth c Q C K H locs ls hl hP hS)
theorem j_ineg {x : Int32} (hd : decode cc pc = .ok (.ineg, 1)) (kk : JW G X cc own (pc + 1) lv (.int (-x) :: st) V S) : JW G X cc own pc lv (.int x :: st) V S :=
  fun p e s m args below meth c Q C K H locs ls hl hP hS => lv_ineg C.1 C.2.1 hd (kk p e s m args below meth c Q C K H locs ls hl hP hS)
theorem j_i2l {x : Int32} (hd : decode cc pc = .ok (.i2l, 1)) (kk : JW G X cc own (pc + 1) lv (.long x.toInt64 :: st) V S) : JW G X cc own pc lv (.int x :: st) V S :=
  fun p e s m args below meth c Q C K H locs ls hl hP hS => lv_i2l C.1 C.2.1 hd rfl (kk p e s m args below meth c Q C K H locs ls hl hP hS)
theorem j_l2i {x : Int64} (hd : decode cc pc = .ok (.l2i, 1)) (kk : JW G X cc own (pc + 1) lv (.int x.toInt32 :: st) V S) : JW G X cc own pc lv (.long x :: st) V S :=
  fun p e s m args below meth c Q C K H locs ls hl hP hS => lv_l2i C.1 C.2.1 hd rfl (kk p e s m args below meth c Q C K H locs ls hl hP hS)
theorem j_lshl {x : Int64} {y : Int32} (hd : decode cc pc = .ok (.lshl, 1)) (kk : JW G X cc own (pc + 1) lv (.long (x <<< (y.toInt64 &&& 63)) :: st) V S) : JW G X cc own pc lv (.int y :: .long x :: st) V S :=
  fun p e s m args below meth c Q C K H locs ls hl hP hS => lv_lshl C.1 C.2.1 hd rfl (kk p e s m args below meth c Q C K H locs ls hl hP hS)
theorem j_lushr {x : Int64} {y : Int32} (hd : decode cc pc = .ok (.lushr, 1)) (kk : JW G X cc own (pc + 1) lv (.long ((x.toUInt64 >>> (y.toInt64.toUInt64 &&& Int64.toUInt64 63)).toInt64) :: st) V S) : JW G X cc own pc lv (.int y :: .long x :: st) V S :=
  fun p e s m args below meth c Q C K H locs ls hl hP hS => lv_lushr C.1 C.2.1 hd rfl (kk p e s m args below meth c Q C K H locs ls hl hP hS)
theorem j_lcmp {x y : Int64} (hd : decode cc pc = .ok (.lcmp, 1)) (kk : JW G X cc own (pc + 1) lv (.int (lg_cmp x y) :: st) V S) : JW G X cc own pc lv (.long y :: .long x :: st) V S :=
  fun p e s m args below meth c Q C K H locs ls hl hP hS => W.lcmp C.1 C.2.1 hd (kk p e s m args below meth c Q C K H locs ls hl hP hS)
theorem j_dup {v : Value} (hd : decode cc pc = .ok (.dup, 1)) (hc : v.category = 1) (kk : JW G X cc own (pc + 1) lv (v :: v :: st) V S) : JW G X cc own pc lv (v :: st) V S :=
  fun p e s m args below meth c Q C K H locs ls hl hP hS => lv_dup C.1 C.2.1 hd hc (kk p e s m args below meth c Q C K H locs ls hl hP hS)
theorem j_dup2 {v u : Value} (hd : decode cc pc = .ok (.dup2, 1)) (hc : v.category = 1) (hc2 : u.category = 1) (kk : JW G X cc own (pc + 1) lv (v :: u :: v :: u :: st) V S) : JW G X cc own pc lv (v :: u :: st) V S :=
  fun p e s m args below meth c Q C K H locs ls hl hP hS => lv_dup2_11 C.1 C.2.1 hd hc hc2 (kk p e s m args below meth c Q C K H locs ls hl hP hS)
theorem j_if_eq {x : Int32} {off : Int} {tgt : Nat} (hd : decode cc pc = .ok (.ifCond .eq off, 3)) (ht : (pc : Int) + off = (tgt : Int)) (kt : x = 0 → JW G X cc own tgt lv st V S) (kf : ¬ x = 0 → JW G X cc own (pc + 3) lv st V S) : JW G X cc own pc lv (.int x :: st) V S :=
  fun p e s m args below meth c Q C K H locs ls hl hP hS => lv_if_eq C.1 C.2.1 hd ht (fun h => kt h p e s m args below meth c Q C K H locs ls hl hP hS) (fun h => kf h p e s m args below meth c Q C K H locs ls hl hP hS)
theorem j_icmp_eq {x y : Int32} {off : Int} {tgt : Nat} (hd : decode cc pc = .ok (.if_icmp .eq off, 3)) (ht : (pc : Int) + off = (tgt : Int)) (kt : x = y → JW G X cc own tgt lv st V S) (kf : ¬ x = y → JW G X cc own (pc + 3) lv st V S) : JW G X cc own pc lv (.int y :: .int x :: st) V S :=
  fun p e s m args below meth c Q C K H locs ls hl hP hS => lv_icmp_eq C.1 C.2.1 hd ht (fun h => kt h p e s m args below meth c Q C K H locs ls hl hP hS) (fun h => kf h p e s m args below meth c Q C K H locs ls hl hP hS)
theorem j_if_ne {x : Int32} {off : Int} {tgt : Nat} (hd : decode cc pc = .ok (.ifCond .ne off, 3)) (ht : (pc : Int) + off = (tgt : Int)) (kt : ¬ x = 0 → JW G X cc own tgt lv st V S) (kf : x = 0 → JW G X cc own (pc + 3) lv st V S) : JW G X cc own pc lv (.int x :: st) V S :=
  fun p e s m args below meth c Q C K H locs ls hl hP hS => lv_if_ne C.1 C.2.1 hd ht (fun h => kt h p e s m args below meth c Q C K H locs ls hl hP hS) (fun h => kf h p e s m args below meth c Q C K H locs ls hl hP hS)
theorem j_icmp_ne {x y : Int32} {off : Int} {tgt : Nat} (hd : decode cc pc = .ok (.if_icmp .ne off, 3)) (ht : (pc : Int) + off = (tgt : Int)) (kt : ¬ x = y → JW G X cc own tgt lv st V S) (kf : x = y → JW G X cc own (pc + 3) lv st V S) : JW G X cc own pc lv (.int y :: .int x :: st) V S :=
  fun p e s m args below meth c Q C K H locs ls hl hP hS => lv_icmp_ne C.1 C.2.1 hd ht (fun h => kt h p e s m args below meth c Q C K H locs ls hl hP hS) (fun h => kf h p e s m args below meth c Q C K H locs ls hl hP hS)
theorem j_if_lt {x : Int32} {off : Int} {tgt : Nat} (hd : decode cc pc = .ok (.ifCond .lt off, 3)) (ht : (pc : Int) + off = (tgt : Int)) (kt : x < 0 → JW G X cc own tgt lv st V S) (kf : ¬ x < 0 → JW G X cc own (pc + 3) lv st V S) : JW G X cc own pc lv (.int x :: st) V S :=
  fun p e s m args below meth c Q C K H locs ls hl hP hS => lv_if_lt C.1 C.2.1 hd ht (fun h => kt h p e s m args below meth c Q C K H locs ls hl hP hS) (fun h => kf h p e s m args below meth c Q C K H locs ls hl hP hS)
theorem j_icmp_lt {x y : Int32} {off : Int} {tgt : Nat} (hd : decode cc pc = .ok (.if_icmp .lt off, 3)) (ht : (pc : Int) + off = (tgt : Int)) (kt : x < y → JW G X cc own tgt lv st V S) (kf : ¬ x < y → JW G X cc own (pc + 3) lv st V S) : JW G X cc own pc lv (.int y :: .int x :: st) V S :=
  fun p e s m args below meth c Q C K H locs ls hl hP hS => lv_icmp_lt C.1 C.2.1 hd ht (fun h => kt h p e s m args below meth c Q C K H locs ls hl hP hS) (fun h => kf h p e s m args below meth c Q C K H locs ls hl hP hS)
theorem j_if_ge {x : Int32} {off : Int} {tgt : Nat} (hd : decode cc pc = .ok (.ifCond .ge off, 3)) (ht : (pc : Int) + off = (tgt : Int)) (kt : 0 ≤ x → JW G X cc own tgt lv st V S) (kf : ¬ 0 ≤ x → JW G X cc own (pc + 3) lv st V S) : JW G X cc own pc lv (.int x :: st) V S :=
  fun p e s m args below meth c Q C K H locs ls hl hP hS => lv_if_ge C.1 C.2.1 hd ht (fun h => kt h p e s m args below meth c Q C K H locs ls hl hP hS) (fun h => kf h p e s m args below meth c Q C K H locs ls hl hP hS)
theorem j_icmp_ge {x y : Int32} {off : Int} {tgt : Nat} (hd : decode cc pc = .ok (.if_icmp .ge off, 3)) (ht : (pc : Int) + off = (tgt : Int)) (kt : y ≤ x → JW G X cc own tgt lv st V S) (kf : ¬ y ≤ x → JW G X cc own (pc + 3) lv st V S) : JW G X cc own pc lv (.int y :: .int x :: st) V S :=
  fun p e s m args below meth c Q C K H locs ls hl hP hS => lv_icmp_ge C.1 C.2.1 hd ht (fun h => kt h p e s m args below meth c Q C K H locs ls hl hP hS) (fun h => kf h p e s m args below meth c Q C K H locs ls hl hP hS)
theorem j_if_gt {x : Int32} {off : Int} {tgt : Nat} (hd : decode cc pc = .ok (.ifCond .gt off, 3)) (ht : (pc : Int) + off = (tgt : Int)) (kt : 0 < x → JW G X cc own tgt lv st V S) (kf : ¬ 0 < x → JW G X cc own (pc + 3) lv st V S) : JW G X cc own pc lv (.int x :: st) V S :=
  fun p e s m args below meth c Q C K H locs ls hl hP hS => lv_if_gt C.1 C.2.1 hd ht (fun h => kt h p e s m args below meth c Q C K H locs ls hl hP hS) (fun h => kf h p e s m args below meth c Q C K H locs ls hl hP hS)
theorem j_icmp_gt {x y : Int32} {off : Int} {tgt : Nat} (hd : decode cc pc = .ok (.if_icmp .gt off, 3)) (ht : (pc : Int) + off = (tgt : Int)) (kt : y < x → JW G X cc own tgt lv st V S) (kf : ¬ y < x → JW G X cc own (pc + 3) lv st V S) : JW G X cc own pc lv (.int y :: .int x :: st) V S :=
  fun p e s m args below meth c Q C K H locs ls hl hP hS => lv_icmp_gt C.1 C.2.1 hd ht (fun h => kt h p e s m args below meth c Q C K H locs ls hl hP hS) (fun h => kf h p e s m args below meth c Q C K H locs ls hl hP hS)
theorem j_if_le {x : Int32} {off : Int} {tgt : Nat} (hd : decode cc pc = .ok (.ifCond .le off, 3)) (ht : (pc : Int) + off = (tgt : Int)) (kt : x ≤ 0 → JW G X cc own tgt lv st V S) (kf : ¬ x ≤ 0 → JW G X cc own (pc + 3) lv st V S) : JW G X cc own pc lv (.int x :: st) V S :=
  fun p e s m args below meth c Q C K H locs ls hl hP hS => lv_if_le C.1 C.2.1 hd ht (fun h => kt h p e s m args below meth c Q C K H locs ls hl hP hS) (fun h => kf h p e s m args below meth c Q C K H locs ls hl hP hS)
theorem j_icmp_le {x y : Int32} {off : Int} {tgt : Nat} (hd : decode cc pc = .ok (.if_icmp .le off, 3)) (ht : (pc : Int) + off = (tgt : Int)) (kt : x ≤ y → JW G X cc own tgt lv st V S) (kf : ¬ x ≤ y → JW G X cc own (pc + 3) lv st V S) : JW G X cc own pc lv (.int y :: .int x :: st) V S :=
  fun p e s m args below meth c Q C K H locs ls hl hP hS => lv_icmp_le C.1 C.2.1 hd ht (fun h => kt h p e s m args below meth c Q C K H locs ls hl hP hS) (fun h => kf h p e s m args below meth c Q C K H locs ls hl hP hS)
theorem j_goto {off : Int} {tgt : Nat} (hd : decode cc pc = .ok (.goto off, 3)) (ht : (pc : Int) + off = (tgt : Int)) (kk : JW G X cc own tgt lv st V S) : JW G X cc own pc lv st V S :=
  fun p e s m args below meth c Q C K H locs ls hl hP hS => lv_goto C.1 C.2.1 hd ht (kk p e s m args below meth c Q C K H locs ls hl hP hS)
theorem j_tableOut {dflt lo hi : Int} {offs : Array Int} {len : Nat} {x : Int32} {tgt : Nat} (hd : decode cc pc = .ok (.tableswitch dflt lo hi offs, len)) (h : x.toInt < lo ∨ hi < x.toInt) (ht : (pc : Int) + dflt = (tgt : Int)) (kk : JW G X cc own tgt lv st V S) : JW G X cc own pc lv (.int x :: st) V S :=
  fun p e s m args below meth c Q C K H locs ls hl hP hS => lv_tableOut C.1 C.2.1 hd h ht (kk p e s m args below meth c Q C K H locs ls hl hP hS)
theorem j_tableIn {dflt lo hi : Int} {offs : Array Int} {len : Nat} {x : Int32} {off : Int} {tgt : Nat} (hd : decode cc pc = .ok (.tableswitch dflt lo hi offs, len)) (h1 : ¬ x.toInt < lo) (h2 : ¬ hi < x.toInt) (ho : offs[(x.toInt - lo).toNat]? = some off) (ht : (pc : Int) + off = (tgt : Int)) (kk : JW G X cc own tgt lv st V S) : JW G X cc own pc lv (.int x :: st) V S :=
  fun p e s m args below meth c Q C K H locs ls hl hP hS => lv_tableIn C.1 C.2.1 hd h1 h2 ho ht (kk p e s m args below meth c Q C K H locs ls hl hP hS)
/-- cell c is an int array of n places -/
def g_I (c n : Nat) : Prop := c < g_N ∧ n < 2 ^ 31 ∧ ∀ (G : g_G) (f : Nat → Nat) (z : Int64), g_E G f z c = g_int G n f
theorem g_up_row {V : g_V} {c k x : Nat} : (fun k' => nI (g_up V c k x c k')) = upd (fun k' => nI (V c k')) k (nI x) := by
  funext k'
  by_cases h : k' = k
  · simp [g_up, upd, h]
  · simp [g_up, upd, h]
theorem g_up_ne {V : g_V} {c k c' : Nat} {x : Nat} (h : c' ≠ c) : (g_up V c k x) c' = V c' := by
  funext k'
  simp [g_up, h]
theorem g_upL_self {S : g_L} {c : Nat} {x : Int64} : g_upL S c x c = x := if_pos rfl
theorem g_upL_ne {S : g_L} {c c' : Nat} {x : Int64} (h : c' ≠ c) : g_upL S c x c' = S c' := if_neg h
theorem j_iald {cl n : Nat} {i : Nat} (hd : decode cc pc = .ok (.iaload, 1)) (hc : g_I cl n) (hi : i < n) (kk : JW G X cc own (pc + 1) lv (.int (nI (V cl i)) :: st) V S) : JW G X cc own pc lv (.int (nI i) :: .ref (g_a G cl) :: st) V S := by
  intro p e s m args below meth c Q C K H locs ls hl hP hS
  have := va_iald (i := nI i) (f := fun k => nI (V cl k)) C.1 C.2.1 C.2.2.2.2.1 hP cl 0 (by rw [g_W_get hc.1, hc.2.2]; rfl) rfl (vp_in_nI hi hc.2.1) hd (rest := st) (by have h := (kk p e s m args below meth c Q C K H locs ls hl hP hS); rw [nI_clamp (by have := hc.2.1; omega)]; exact h)
  exact this
theorem j_alen {cl n : Nat} (hd : decode cc pc = .ok (.arraylength, 1)) (hc : g_I cl n) (kk : JW G X cc own (pc + 1) lv (.int (nI n) :: st) V S) : JW G X cc own pc lv (.ref (g_a G cl) :: st) V S :=
  fun p e s m args below meth c Q C K H locs ls hl hP hS => va_alen C.1 C.2.1 C.2.2.2.2.1 hP cl 0 (x := (n, .inl (fun k => nI (V cl k)))) (by rw [g_W_get hc.1, hc.2.2]; rfl) (ty := .int) rfl rfl hd (kk p e s m args below meth c Q C K H locs ls hl hP hS)
theorem j_iast {cl n : Nat} {i x : Nat} (hd : decode cc pc = .ok (.iastore, 1)) (hc : g_I cl n) (hi : i < n) (kk : JW G X cc own (pc + 1) lv st (g_up V cl i x) S) : JW G X cc own pc lv (.int (nI x) :: .int (nI i) :: .ref (g_a G cl) :: st) V S :=
  fun p e s m args below meth c Q C K H locs ls hl hP hS => va_iast C.1 C.2.1 C.2.2.2.2.1 hP (g_D C.2.2.2.2.2.1 C.2.2.2.2.2.2.1 V S) hS cl 0 (f := fun k => nI (V cl k)) (by rw [g_W_get hc.1, hc.2.2]; rfl) rfl (vp_in_nI hi hc.2.1) hd (fun H1 locs1 hP1 hD1 hS1 => kk p e s m args below meth c Q C K H1 locs1 ls hl (by
    rw [nI_clamp (by have := hc.2.1; omega), g_W_set (V' := g_up V cl i x) (S' := S) (fun c' h => ⟨g_up_ne h, rfl⟩) (by rw [hc.2.2, ← g_up_row]; rfl)] at hP1
    exact hP1) hS1)
theorem j_zald {i : Nat} (hd : decode cc pc = .ok (.baload, 1)) (hi : i < 2) (kk : JW G X cc own (pc + 1) lv (.int (nI (V 211 i)) :: st) V S) : JW G X cc own pc lv (.int (nI i) :: .ref (g_a G 211) :: st) V S := by
  intro p e s m args below meth c Q C K H locs ls hl hP hS
  exact va_zald (i := nI i) C.1 C.2.1 C.2.2.2.2.1 hP 211 1 (f := fun k => nI (V 211 k)) (by rw [g_W_get (by decide)]; rfl) rfl (vp_in_nI hi (by decide)) hd (by have h := (kk p e s m args below meth c Q C K H locs ls hl hP hS); rw [nI_clamp (by omega)]; exact h)
theorem j_zast {i x : Nat} (hd : decode cc pc = .ok (.bastore, 1)) (hi : i < 2) (hx : vp_nar .boolean (nI x) = nI x) (kk : JW G X cc own (pc + 1) lv st (g_up V 211 i x) S) : JW G X cc own pc lv (.int (nI x) :: .int (nI i) :: .ref (g_a G 211) :: st) V S :=
  fun p e s m args below meth c Q C K H locs ls hl hP hS => va_zast C.1 C.2.1 C.2.2.2.2.1 hP (g_D C.2.2.2.2.2.1 C.2.2.2.2.2.2.1 V S) hS 211 1 (f := fun k => nI (V 211 k)) (by rw [g_W_get (by decide)]; rfl) rfl (vp_in_nI hi (by decide)) hd (fun H1 locs1 hP1 hD1 hS1 => kk p e s m args below meth c Q C K H1 locs1 ls hl (by
    rw [hx, nI_clamp (by omega), g_W_set (V' := g_up V 211 i x) (S' := S) (fun c' h => ⟨g_up_ne h, rfl⟩) (by rw [← g_up_row]; rfl)] at hP1
    exact hP1) hS1)
/-- past (6) and slots (7) -/
theorem j_aald6 {i : Nat} (hd : decode cc pc = .ok (.aaload, 1)) (hi : i < 14) (kk : JW G X cc own (pc + 1) lv (.ref (g_a G (hB (1 + i))) :: st) V S) : JW G X cc own pc lv (.int (nI i) :: .ref (g_a G 6) :: st) V S :=
  fun p e s m args below meth c Q C K H locs ls hl hP hS => va_aldq C.1 C.2.1 C.2.2.2.2.1 hP 6 2 (f := fun k => some (g_a G (hB (1 + k)))) (by rw [g_W_get (by decide)]; rfl) rfl (vp_in_nI hi (by decide)) hd (by have h := (kk p e s m args below meth c Q C K H locs ls hl hP hS); rw [nI_clamp (by omega)]; exact h)
theorem j_aald7 {i : Nat} (hd : decode cc pc = .ok (.aaload, 1)) (hi : i < 2) (kk : JW G X cc own (pc + 1) lv (.ref (g_a G (hB (15 + i))) :: st) V S) : JW G X cc own pc lv (.int (nI i) :: .ref (g_a G 7) :: st) V S :=
  fun p e s m args below meth c Q C K H locs ls hl hP hS => va_aldq C.1 C.2.1 C.2.2.2.2.1 hP 7 2 (f := fun k => some (g_a G (hB (15 + k)))) (by rw [g_W_get (by decide)]; rfl) rfl (vp_in_nI hi (by decide)) hd (by have h := (kk p e s m args below meth c Q C K H locs ls hl hP hS); rw [nI_clamp (by omega)]; exact h)
/-- the rows of owed of the j-th Held -/
theorem j_aaldO {j : Nat} {i : Nat} (hd : decode cc pc = .ok (.aaload, 1)) (hj : j < 17) (hi : i < 6) (kk : JW G X cc own (pc + 1) lv (.ref (g_a G (hB j + (5 + i))) :: st) V S) : JW G X cc own pc lv (.int (nI i) :: .ref (g_a G (hB j + 4)) :: st) V S := by
  intro p e s m args below meth c Q C K H locs ls hl hP hS
  have ha : (g_W G V S)[hB j + 4]? = some (g_a G (hB j + 4), .inl (G.2.1.2.2.2, 6, .inr (.inr (.inr (.inr (fun k => some (g_a G (hB j + (5 + k))))))))) := by
    rw [g_W_get (hB_lt hj (by decide)), g_E_held hj (by decide)]; rfl
  have hc : (nI i).toNatClampNeg = i := nI_clamp (by omega)
  exact W.aald (v := .ref (g_a G (hB j + (5 + i)))) (ty := .array .int) C.1 C.2.1 (hP _ _ ha) ((C.2.2.2.2.1.2 3 _ rfl).1 6 (fun k => va_rf (some (g_a G (hB j + (5 + k)))))) rfl (fun q => by cases q) (by show ¬ (nI i < 0 ∨ (arrV _ _ _).slots.size ≤ _); rw [arrV_size]; exact vp_in_nI (N := 6) hi (by decide)) (by show (arrV _ _ _).slots[_]? = _; rw [arrV_read _ _ (by rw [hc]; exact hi), hc]; rfl) rfl rfl hd (kk p e s m args below meth c Q C K H locs ls hl hP hS)
/-- the two tables of the class -/
theorem j_tG {i : Nat} (hd : decode cc pc = .ok (.iaload, 1)) (hi : i < 5) (kk : JW G X cc own (pc + 1) lv (.int (nI (g_great i)) :: st) V S) : JW G X cc own pc lv (.int (nI i) :: .ref G.2.2.2.1 :: st) V S :=
  fun p e s m args below meth c Q C K H locs ls hl hP hS => va_ti C.1 C.2.1 C.2.2.2.2.2.2.2.1.1.2 hS (vp_in_nI hi (by decide)) (by rw [nI_clamp (by omega)]) hd (kk p e s m args below meth c Q C K H locs ls hl hP hS)
theorem j_tO {i : Nat} (hd : decode cc pc = .ok (.iaload, 1)) (hi : i < 7) (kk : JW G X cc own (pc + 1) lv (.int (nI (g_ord i)) :: st) V S) : JW G X cc own pc lv (.int (nI i) :: .ref G.2.2.2.2 :: st) V S :=
  fun p e s m args below meth c Q C K H locs ls hl hP hS => va_ti C.1 C.2.1 C.2.2.2.2.2.2.2.1.2.2 hS (vp_in_nI hi (by decide)) (by rw [nI_clamp (by omega)]) hd (kk p e s m args below meth c Q C K H locs ls hl hP hS)
theorem j_alenG (hd : decode cc pc = .ok (.arraylength, 1)) (kk : JW G X cc own (pc + 1) lv (.int (nI 5) :: st) V S) : JW G X cc own pc lv (.ref G.2.2.2.1 :: st) V S := by
  intro p e s m args below meth c Q C K H locs ls hl hP hS
  obtain ⟨cell, h1, h2, h3, h4, h5, h6, h7⟩ := C.2.2.2.2.2.2.2.1.1.2
  exact W.alen (n := nI 5) C.1 C.2.1 (by rw [hS.2.1 _ (Array.getElem?_eq_some_iff.mp h1).1 h7]; exact h1) h2 h5 rfl rfl hd (kk p e s m args below meth c Q C K H locs ls hl hP hS)
/-! rows over numbers -/
theorem nI_mul (a b : Nat) : nI a * nI b = nI (a * b) := (Int32.ofNat_mul a b).symm
theorem nI_sub {a b : Nat} (h : b ≤ a) : nI a - nI b = nI (a - b) := by
  have : nI a = nI (a - b) + nI b := by rw [nI_add, Nat.sub_add_cancel h]
  rw [this, Int32.add_sub_cancel]
theorem nI_and (a b : Nat) : nI a &&& nI b = nI (a &&& b) := by
  apply Int32.toBitVec_inj.1
  show BitVec.ofNat 32 a &&& BitVec.ofNat 32 b = BitVec.ofNat 32 (a &&& b)
  apply BitVec.eq_of_getLsbD_eq
  intro i hi
  simp [hi]
theorem nI_or (a b : Nat) : nI a ||| nI b = nI (a ||| b) := by
  apply Int32.toBitVec_inj.1
  show BitVec.ofNat 32 a ||| BitVec.ofNat 32 b = BitVec.ofNat 32 (a ||| b)
  apply BitVec.eq_of_getLsbD_eq
  intro i hi
  simp [hi]
theorem nI_xor (a b : Nat) : nI a ^^^ nI b = nI (a ^^^ b) := by
  apply Int32.toBitVec_inj.1
  show BitVec.ofNat 32 a ^^^ BitVec.ofNat 32 b = BitVec.ofNat 32 (a ^^^ b)
  apply BitVec.eq_of_getLsbD_eq
  intro i hi
  simp [hi]
theorem nI_s : ∀ n, n < 32 → ((nI n &&& 31).toBitVec.smod 32).toNat = n := by decide +kernel
theorem nI_shl (a : Nat) {k : Nat} (hk : k < 32) : nI a <<< (nI k &&& 31) = nI (a <<< k) := by
  apply Int32.toBitVec_inj.1
  rw [Int32.toBitVec_shiftLeft]
  show BitVec.ofNat 32 a <<< ((nI k &&& 31).toBitVec.smod 32).toNat = BitVec.ofNat 32 (a <<< k)
  rw [nI_s k hk]
  apply BitVec.eq_of_toNat_eq
  rw [BitVec.toNat_shiftLeft, BitVec.toNat_ofNat, BitVec.toNat_ofNat, Nat.shiftLeft_eq, Nat.shiftLeft_eq, Nat.mod_mul_mod]
theorem nI_shr {a k : Nat} (ha : a < 2 ^ 31) (hk : k < 32) : nI a >>> (nI k &&& 31) = nI (a >>> k) := by
  apply Int32.toBitVec_inj.1
  rw [Int32.toBitVec_shiftRight]
  show (BitVec.ofNat 32 a).sshiftRight ((nI k &&& 31).toBitVec.smod 32).toNat = BitVec.ofNat 32 (a >>> k)
  rw [nI_s k hk]
  have e : (BitVec.ofNat 32 a).toNat = a := by
    rw [BitVec.toNat_ofNat]
    exact Nat.mod_eq_of_lt (by omega)
  have hm : (BitVec.ofNat 32 a).msb = false := by
    rw [BitVec.msb_eq_decide, e]
    exact decide_eq_false (by show ¬ 2 ^ 31 ≤ a; omega)
  rw [BitVec.sshiftRight_eq_of_msb_false hm]
  apply BitVec.eq_of_toNat_eq
  rw [BitVec.toNat_ushiftRight, e, BitVec.toNat_ofNat]
  have h2 : a >>> k ≤ a := by rw [Nat.shiftRight_eq_div_pow]; exact Nat.div_le_self _ _
  exact (Nat.mod_eq_of_lt (by omega)).symm
theorem nI_div {a b : Nat} (ha : a < 2 ^ 31) (hb : b < 2 ^ 31) : nI a / nI b = nI (a / b) := by
  apply Int32.toInt_inj.mp
  have e : (-1 : Int32).toInt = -1 := by decide
  rw [Int32.toInt_div_of_ne_right _ _ (fun h => by have h1 := nI_toInt hb; rw [h, e] at h1; omega), nI_toInt ha, nI_toInt hb, nI_toInt (Nat.lt_of_le_of_lt (Nat.div_le_self _ _) ha)]
  exact (Int.ofNat_tdiv a b).symm
theorem nI_rem {a b : Nat} (ha : a < 2 ^ 31) (hb : b < 2 ^ 31) : nI a - nI a / nI b * nI b = nI (a % b) := by
  rw [nI_div ha hb, nI_mul, nI_sub (Nat.div_mul_le_self a b)]
  congr 1
  have := Nat.div_add_mod a b
  rw [Nat.mul_comm] at this
  omega
theorem j_iconstN {n : Int} {k : Nat} (hd : decode cc pc = .ok (.iconst n, 1)) (hv : Int32.ofInt n = nI k) (kk : JW G X cc own (pc + 1) lv (.int (nI k) :: st) V S) : JW G X cc own pc lv st V S :=
  fun p e s m args below meth c Q C K H locs ls hl hP hS => lv_iconst C.1 C.2.1 hd hv (kk p e s m args below meth c Q C K H locs ls hl hP hS)
theorem j_bipushN {n : Int} {k : Nat} (hd : decode cc pc = .ok (.bipush n, 2)) (hv : (Int8.ofInt n).toInt32 = nI k) (kk : JW G X cc own (pc + 2) lv (.int (nI k) :: st) V S) : JW G X cc own pc lv st V S :=
  fun p e s m args below meth c Q C K H locs ls hl hP hS => lv_bipush C.1 C.2.1 hd hv (kk p e s m args below meth c Q C K H locs ls hl hP hS)
theorem j_sipushN {n : Int} {k : Nat} (hd : decode cc pc = .ok (.sipush n, 3)) (hv : (Int16.ofInt n).toInt32 = nI k) (kk : JW G X cc own (pc + 3) lv (.int (nI k) :: st) V S) : JW G X cc own pc lv st V S :=
  fun p e s m args below meth c Q C K H locs ls hl hP hS => lv_sipush C.1 C.2.1 hd hv (kk p e s m args below meth c Q C K H locs ls hl hP hS)
theorem j_iaddN {a b : Nat} (hd : decode cc pc = .ok (.iadd, 1)) (kk : JW G X cc own (pc + 1) lv (.int (nI (a + b)) :: st) V S) : JW G X cc own pc lv (.int (nI b) :: .int (nI a) :: st) V S :=
  j_iadd hd (by rw [nI_add a b]; exact kk)
theorem j_imulN {a b : Nat} (hd : decode cc pc = .ok (.imul, 1)) (kk : JW G X cc own (pc + 1) lv (.int (nI (a * b)) :: st) V S) : JW G X cc own pc lv (.int (nI b) :: .int (nI a) :: st) V S :=
  j_imul hd (by rw [nI_mul a b]; exact kk)
theorem j_iandN {a b : Nat} (hd : decode cc pc = .ok (.iand, 1)) (kk : JW G X cc own (pc + 1) lv (.int (nI (a &&& b)) :: st) V S) : JW G X cc own pc lv (.int (nI b) :: .int (nI a) :: st) V S :=
  j_iand hd (by rw [nI_and a b]; exact kk)
theorem j_iorN {a b : Nat} (hd : decode cc pc = .ok (.ior, 1)) (kk : JW G X cc own (pc + 1) lv (.int (nI (a ||| b)) :: st) V S) : JW G X cc own pc lv (.int (nI b) :: .int (nI a) :: st) V S :=
  j_ior hd (by rw [nI_or a b]; exact kk)
theorem j_ixorN {a b : Nat} (hd : decode cc pc = .ok (.ixor, 1)) (kk : JW G X cc own (pc + 1) lv (.int (nI (a ^^^ b)) :: st) V S) : JW G X cc own pc lv (.int (nI b) :: .int (nI a) :: st) V S :=
  j_ixor hd (by rw [nI_xor a b]; exact kk)
theorem j_isubN {a b : Nat} (hd : decode cc pc = .ok (.isub, 1)) (h : b ≤ a) (kk : JW G X cc own (pc + 1) lv (.int (nI (a - b)) :: st) V S) : JW G X cc own pc lv (.int (nI b) :: .int (nI a) :: st) V S :=
  j_isub hd (by rw [nI_sub h]; exact kk)
theorem j_ishlN {a b : Nat} (hd : decode cc pc = .ok (.ishl, 1)) (h : b < 32) (kk : JW G X cc own (pc + 1) lv (.int (nI (a <<< b)) :: st) V S) : JW G X cc own pc lv (.int (nI b) :: .int (nI a) :: st) V S :=
  j_ishl hd (by rw [nI_shl a h]; exact kk)
theorem j_ishrN {a b : Nat} (hd : decode cc pc = .ok (.ishr, 1)) (h : a < 2 ^ 31) (h2 : b < 32) (kk : JW G X cc own (pc + 1) lv (.int (nI (a >>> b)) :: st) V S) : JW G X cc own pc lv (.int (nI b) :: .int (nI a) :: st) V S :=
  j_ishr hd (by rw [nI_shr h h2]; exact kk)
theorem j_idivN {a b : Nat} (hd : decode cc pc = .ok (.idiv, 1)) (h : a < 2 ^ 31) (h2 : b < 2 ^ 31) (h0 : 0 < b) (kk : JW G X cc own (pc + 1) lv (.int (nI (a / b)) :: st) V S) : JW G X cc own pc lv (.int (nI b) :: .int (nI a) :: st) V S :=
  j_idiv hd (nI_ne0 h0 h2) (by rw [nI_div h h2]; exact kk)
theorem j_iremN {a b : Nat} (hd : decode cc pc = .ok (.irem, 1)) (h : a < 2 ^ 31) (h2 : b < 2 ^ 31) (h0 : 0 < b) (kk : JW G X cc own (pc + 1) lv (.int (nI (a % b)) :: st) V S) : JW G X cc own pc lv (.int (nI b) :: .int (nI a) :: st) V S :=
  j_irem hd (nI_ne0 h0 h2) (by rw [nI_rem h h2]; exact kk)
theorem j_iincN {i : Nat} {n : Int} {a k : Nat} (hd : decode cc pc = .ok (.iinc i n, 3)) (hv : lv[i]? = some (some (.int (nI a)))) (hx : Int32.ofInt n = nI k) (hs : g_set i (.int (nI (a + k))) lv lv') (kk : JW G X cc own (pc + 3) lv' st V S) : JW G X cc own pc lv st V S :=
  j_iinc hd hv (by rw [hx, nI_add]) hs kk
theorem j_iincM {i : Nat} {n : Int} {a k : Nat} (hd : decode cc pc = .ok (.iinc i n, 3)) (hv : lv[i]? = some (some (.int (nI a)))) (hx : Int32.ofInt n = - nI k) (hk : k ≤ a) (hs : g_set i (.int (nI (a - k))) lv lv') (kk : JW G X cc own (pc + 3) lv' st V S) : JW G X cc own pc lv st V S :=
  j_iinc hd hv (by rw [hx, ← Int32.sub_eq_add_neg, nI_sub hk]) hs kk
theorem j_icmp_eqN {a b : Nat} {off : Int} {tgt : Nat} (hd : decode cc pc = .ok (.if_icmp .eq off, 3)) (ht : (pc : Int) + off = (tgt : Int)) (ha : a < 2 ^ 31) (hb : b < 2 ^ 31) (kt : a = b → JW G X cc own tgt lv st V S) (kf : ¬ a = b → JW G X cc own (pc + 3) lv st V S) : JW G X cc own pc lv (.int (nI b) :: .int (nI a) :: st) V S :=
  j_icmp_eq hd ht (fun h => kt ((nI_eq ha hb).mp h)) (fun h => kf (fun q => h ((nI_eq ha hb).mpr q)))
theorem j_icmp_neN {a b : Nat} {off : Int} {tgt : Nat} (hd : decode cc pc = .ok (.if_icmp .ne off, 3)) (ht : (pc : Int) + off = (tgt : Int)) (ha : a < 2 ^ 31) (hb : b < 2 ^ 31) (kt : ¬ a = b → JW G X cc own tgt lv st V S) (kf : a = b → JW G X cc own (pc + 3) lv st V S) : JW G X cc own pc lv (.int (nI b) :: .int (nI a) :: st) V S :=
  j_icmp_ne hd ht (fun h => kt (fun q => h ((nI_eq ha hb).mpr q))) (fun h => kf ((nI_eq ha hb).mp h))
theorem j_icmp_ltN {a b : Nat} {off : Int} {tgt : Nat} (hd : decode cc pc = .ok (.if_icmp .lt off, 3)) (ht : (pc : Int) + off = (tgt : Int)) (ha : a < 2 ^ 31) (hb : b < 2 ^ 31) (kt : a < b → JW G X cc own tgt lv st V S) (kf : b ≤ a → JW G X cc own (pc + 3) lv st V S) : JW G X cc own pc lv (.int (nI b) :: .int (nI a) :: st) V S :=
  j_icmp_lt hd ht (fun h => kt ((nI_ltI ha hb).mp h)) (fun h => kf (Nat.not_lt.mp fun q => h ((nI_ltI ha hb).mpr q)))
theorem j_icmp_geN {a b : Nat} {off : Int} {tgt : Nat} (hd : decode cc pc = .ok (.if_icmp .ge off, 3)) (ht : (pc : Int) + off = (tgt : Int)) (ha : a < 2 ^ 31) (hb : b < 2 ^ 31) (kt : b ≤ a → JW G X cc own tgt lv st V S) (kf : a < b → JW G X cc own (pc + 3) lv st V S) : JW G X cc own pc lv (.int (nI b) :: .int (nI a) :: st) V S :=
  j_icmp_ge hd ht (fun h => kt ((nI_leI hb ha).mp h)) (fun h => kf (Nat.not_le.mp fun q => h ((nI_leI hb ha).mpr q)))
theorem j_icmp_gtN {a b : Nat} {off : Int} {tgt : Nat} (hd : decode cc pc = .ok (.if_icmp .gt off, 3)) (ht : (pc : Int) + off = (tgt : Int)) (ha : a < 2 ^ 31) (hb : b < 2 ^ 31) (kt : b < a → JW G X cc own tgt lv st V S) (kf : a ≤ b → JW G X cc own (pc + 3) lv st V S) : JW G X cc own pc lv (.int (nI b) :: .int (nI a) :: st) V S :=
  j_icmp_gt hd ht (fun h => kt ((nI_ltI hb ha).mp h)) (fun h => kf (Nat.not_lt.mp fun q => h ((nI_ltI hb ha).mpr q)))
theorem j_icmp_leN {a b : Nat} {off : Int} {tgt : Nat} (hd : decode cc pc = .ok (.if_icmp .le off, 3)) (ht : (pc : Int) + off = (tgt : Int)) (ha : a < 2 ^ 31) (hb : b < 2 ^ 31) (kt : a ≤ b → JW G X cc own tgt lv st V S) (kf : b < a → JW G X cc own (pc + 3) lv st V S) : JW G X cc own pc lv (.int (nI b) :: .int (nI a) :: st) V S :=
  j_icmp_le hd ht (fun h => kt ((nI_leI ha hb).mp h)) (fun h => kf (Nat.not_le.mp fun q => h ((nI_leI ha hb).mpr q)))
theorem j_if_eqN {a : Nat} {off : Int} {tgt : Nat} (hd : decode cc pc = .ok (.ifCond .eq off, 3)) (ht : (pc : Int) + off = (tgt : Int)) (ha : a < 2 ^ 31) (kt : a = 0 → JW G X cc own tgt lv st V S) (kf : ¬ a = 0 → JW G X cc own (pc + 3) lv st V S) : JW G X cc own pc lv (.int (nI a) :: st) V S :=
  j_if_eq hd ht (fun h => kt ((nI_eq ha (by decide)).mp h)) (fun h => kf (fun q => h ((nI_eq ha (by decide)).mpr q)))
theorem j_if_neN {a : Nat} {off : Int} {tgt : Nat} (hd : decode cc pc = .ok (.ifCond .ne off, 3)) (ht : (pc : Int) + off = (tgt : Int)) (ha : a < 2 ^ 31) (kt : ¬ a = 0 → JW G X cc own tgt lv st V S) (kf : a = 0 → JW G X cc own (pc + 3) lv st V S) : JW G X cc own pc lv (.int (nI a) :: st) V S :=
  j_if_ne hd ht (fun h => kt (fun q => h ((nI_eq ha (by decide)).mpr q))) (fun h => kf ((nI_eq ha (by decide)).mp h))
end JWR
end
section
/-! Contracts over the world, a method's head and its ends, calls. -/
def g_rm (d : Nat) : Room := { frames := d, cells := 0, slots := 0, locals := 33 * d }
def lw_good : List Cond := lw_use.filter goodWord
theorem lw_split : ∀ w ∈ lw_use, goodWord w = true ∨ g_nest w = true := fun w hw => by
  have h := (List.mem_filter.mp hw).2
  unfold g_usable at h
  exact (Bool.or_eq_true _ _).mp h
def g_Nw (U : State) : Prop := ∀ w ∈ lw_use, g_nest w = true → va_Nw w U
theorem g_nest_on {w : Cond} (h : g_nest w = true) : w.onTables = true := by
  cases w <;> first | rfl | cases h
theorem g_Nw.warm {s U : State} (hW : s.WarmedH U.vm) (h : g_Nw s) : g_Nw U := by
  intro w hw hn
  have hz := h w hw hn
  cases w <;> first | exact va_Nw.warmF hW hz | exact va_Nw.warmM hW hz | cases hn
theorem g_Nw.same {s U : State} (hv : s.vm = U.vm) (h : g_Nw s) : g_Nw U := fun w hw hn => va_Nw.same (g_nest_on hn) hv (h w hw hn)
def g_B (G : g_G) (V : g_V) (S : g_L) (U : State) : Prop := va_P G.1 g_cl (g_W G V S) U.heap ∧ va_K G.1 g_cl (g_tys G) U ∧ g_inj G ∧ g_St G (g_A G) U U.heap ∧ g_Nw U
def g_Q (G : g_G) (A : Nat → Prop) (post : Option Value → g_V → g_L → Prop) : Array Value → State → Outcome → State → Prop := fun _ s oc t =>
  (∃ (r : Option Value) (V : g_V) (S : g_L), oc = .returned r ∧ post r V S ∧ va_P G.1 g_cl (g_W G V S) t.heap) ∧ va_F A s t
/-- THE CONTRACT: method y, called with av over the world V, S, ends with an answer and a world that post says -/
def g_C (G : g_G) (l : Launch) (y : MethodName) (cc : ByteArray) (maxL : Nat) (ret : Option FieldType) (d : Nat) (av : List Value) (V : g_V) (S : g_L) (post : Option Value → g_V → g_L → Prop) : Prop :=
  Met l y (Cond.code y cc maxL ret :: lw_good) (g_rm d) (va_Pc av (g_B G V S)) (g_Q G (g_A G) post) 0 0 (g_A G)
def g_M (G : g_G) (l : Launch) (d : Nat) (ret : Option FieldType) (post : Option Value → g_V → g_L → Prop) : g_X :=
  (l, g_rm d, ret, g_A G, (0, 0), fun _ _ s _ args below _ _ Q => Q = MQ below (g_Q G (g_A G) post) args s 0 0 (g_A G))
theorem g_C.of {G : g_G} {l : Launch} {y : MethodName} {cc : ByteArray} {maxL : Nat} {ret : Option FieldType} {d : Nat} {av : List Value} {V : g_V} {S : g_L} {post : Option Value → g_V → g_L → Prop} {own : String} {lv : List (Option Value)}
    (hy : plainName y.cls = true) (hn : y.cls = own) (hl0 : g_ix 0 lv = lv_args 0 av) (hlen : lv.length = maxL) (hs : (lg_sl av).length ≤ maxL)
    (k : JW G (g_M G l d ret post) cc own 0 lv [] V S) : g_C G l y cc maxL ret d av V S post := by
  refine Met.ofW (cc := cc) (maxL := maxL) (ret := ret) hy rfl ?_
  intro p e s m args below meth c s₁ B hml hv
  obtain ⟨rfl, hP, hK, hi, hSt, hNw⟩ := hv
  have hts := atoms_spec (ws := Cond.code y cc maxL ret :: lw_good) B.pre
  have hown : s.vm.findClass y.cls = some m.cls := findClass_of_methodNamed B.named
  subst hn
  have hw : ∀ w ∈ lw_use, w.before av.toArray s = true := fun w hw => by
    rcases lw_split w hw with h | h
    · exact hts w (List.mem_cons_of_mem _ (List.mem_filter.mpr ⟨hw, h⟩))
    · exact va_Nw.use (g_nest_on h) (hNw w hw h)
  have hl := lv_entry av hs
  rw [lg_entry_eq]
  refine k p e s m _ below meth c _ ⟨B.exec, B.bytes, hown, hw, hK, hi, fun c h => ⟨c, h, rfl⟩, hSt, B.notSynchronized, B.returns⟩ rfl s.heap [] _ ⟨?_, by rw [hml]; exact hlen⟩ hP va_S.rf
  rw [hl0, hml]
  exact hl
section CTR
variable {G : g_G} {X : g_X} {cc : ByteArray} {own : String} {pc : Nat} {lv lv' : List (Option Value)} {st : List Value} {V : g_V} {S : g_L} {l : Launch} {d : Nat} {post : Option Value → g_V → g_L → Prop}
theorem j_iret {v : Int32} (hd : decode cc pc = .ok (.ireturn, 1)) (h : post (some (.int v)) V S) : JW G (g_M G l d (some .int) post) cc own pc lv [.int v] V S := by
  intro p e s m args below meth c Q C K H locs ls hl hP hS
  cases K
  exact W.iret C.1 C.2.1 C.2.2.2.2.2.2.2.2.2 (fun t ht _ => ⟨⟨_, V, S, rfl, h, by rw [ht]; exact hP⟩, hS.F ht⟩) hS.2.2 hd C.2.2.2.2.2.2.2.2.1
theorem j_zret {v : Int32} (hd : decode cc pc = .ok (.ireturn, 1)) (hv : narrow .boolean (.int v) = .int v) (h : post (some (.int v)) V S) : JW G (g_M G l d (some .boolean) post) cc own pc lv [.int v] V S := by
  intro p e s m args below meth c Q C K H locs ls hl hP hS
  cases K
  exact W.zret C.1 C.2.1 C.2.2.2.2.2.2.2.2.2 hv (fun t ht _ => ⟨⟨_, V, S, rfl, h, by rw [ht]; exact hP⟩, hS.F ht⟩) hS.2.2 hd C.2.2.2.2.2.2.2.2.1
theorem j_lret {v : Int64} (hd : decode cc pc = .ok (.lreturn, 1)) (h : post (some (.long v)) V S) : JW G (g_M G l d (some .long) post) cc own pc lv [.long v] V S := by
  intro p e s m args below meth c Q C K H locs ls hl hP hS
  cases K
  exact W.lret C.1 C.2.1 C.2.2.2.2.2.2.2.2.2 (fun t ht _ => ⟨⟨_, V, S, rfl, h, by rw [ht]; exact hP⟩, hS.F ht⟩) hS.2.2 hd C.2.2.2.2.2.2.2.2.1
theorem j_vret (hd : decode cc pc = .ok (.return_, 1)) (h : post none V S) : JW G (g_M G l d none post) cc own pc lv [] V S := by
  intro p e s m args below meth c Q C K H locs ls hl hP hS
  cases K
  exact W.vret C.1 C.2.1 C.2.2.2.2.2.2.2.2.2 (fun t ht _ => ⟨⟨_, V, S, rfl, h, by rw [ht]; exact hP⟩, hS.F ht⟩) hS.2.2 hd C.2.2.2.2.2.2.2.2.1
/-- what the callee finds -/
theorem g_B.at {p : Program} {s U : State} {m : MethodId} {args : Array Value} {meth : Method} {c : Code} {H : Heap} {locs : List Loc} (C : g_Cx G X p s m args meth c cc own) (hP : va_P G.1 g_cl (g_W G V S) H) (hS : va_S X.2.2.2.1 s.heap H locs) (hU : U.heap = H) (hW : s.WarmedH U.vm) : g_B G V S U := by
  refine ⟨by rw [hU]; exact hP, C.2.2.2.2.1.moved hW.alike, C.2.2.2.2.2.1, ?_, ?_⟩
  · have h1 := (C.2.2.2.2.2.2.2.1.kept hS.2.1).moved hW.alike
    rw [hU]
    exact h1.narrow (fun q ⟨c, h, e⟩ => e ▸ C.2.2.2.2.2.2.1 c h)
  · exact g_Nw.warm hW (fun w hw hn => va_Nw.of (g_nest_on hn) (C.2.2.2.1 w hw))
theorem g_blind {av : List Value} : FrameBlind (va_Pc av (g_B G V S)) := fun a U g mk q => by
  obtain ⟨q0, h1, h2, h3, h4, h5⟩ := q
  exact ⟨q0, h1, h2.moved (u := U) (U := U.calling g mk a) (Vm.Alike.refl U.vm), h3, h4.moved (u := U) (U := U.calling g mk a) (Vm.Alike.refl U.vm), g_Nw.same (s := U) (U := U.calling g mk a) rfl h5⟩
theorem g_ok {ws : List Cond} (h : ∀ w ∈ ws, w ∈ lw_use ∧ goodWord w = true) : GoodIn lw_use ws := fun w hw => ⟨(h w hw).1, good_of_word (h w hw).2⟩
theorem g_okc {c : Cond} (hc : c ∈ lw_use) (hg : goodWord c = true) : ∀ w ∈ (c :: lw_good), w ∈ lw_use ∧ goodWord w = true := fun w hw => by
  rcases List.mem_cons.mp hw with rfl | h
  · exact ⟨hc, hg⟩
  · exact List.mem_filter.mp h
/-- the run of a call becomes a step -/
theorem j_run {p : Program} {e : Env} {s : State} {m : MethodId} {args : Array Value} {below : List Frame} {meth : Method} {c : Code} {Q : State → Prop} {H : Heap} {locs : List Loc} {ls : Array Slot} {st0 : List Value} {post2 : Option Value → g_V → g_L → Prop} {a : Array Value}
    (C : g_Cx G X p s m args meth c cc own) (K : X.2.2.2.2.2 p e s m args below meth c Q) (hl : g_lv c ls lv) (hS : va_S X.2.2.2.1 s.heap H locs)
    (hr : va_Run p X.1 e X.2.1 s m args below meth c H locs X.2.2.2.2.1.1 X.2.2.2.2.1.2 0 0 (F0 m pc ls st0) st (g_Q G (g_A G) post2 a) (g_A G))
    (kk : ∀ (v : Option Value) (V' : g_V) (S' : g_L), post2 v V' S' → JW G X cc own (pc + 3) lv (v.toList ++ st) V' S') : W p X.1 e X.2.1 s m args below meth c H locs X.2.2.2.2.1.1 X.2.2.2.2.1.2 Q (F0 m pc ls st0) := by
  intro T hT Xs
  obtain ⟨v, st₀, t, T', L, h0, X', hL, e1, e2, ⟨⟨r, V', S', hv, hp, hb⟩, hz, hk⟩, stp⟩ := hr T hT Xs
  cases hv
  rw [h0] at hz hk
  have hAA : ∀ q, g_A G q → X.2.2.2.1 q := fun q ⟨c, h, e⟩ => e ▸ C.2.2.2.2.2.2.1 c h
  have hS' : va_S X.2.2.2.1 s.heap T'.heap (locs ++ L) := by
    refine ⟨Nat.le_trans hS.1 (by rw [e1]; exact hz), fun q h1 h2 => ?_, fun q hq => ?_⟩
    · rw [e1, hk q (Nat.lt_of_lt_of_le h1 hS.1) (fun z => h2 (hAA q z))]
      exact hS.2.1 q h1 h2
    · rcases List.mem_append.mp hq with h | h
      · exact hS.2.2 q h
      · exact hAA _ (hL q h)
  obtain ⟨t2, a1, b1⟩ := kk v V' S' hp p e s m args below meth c Q C K T'.heap (locs ++ L) ls hl (by rw [e1]; exact hb) hS' T' rfl X'
  exact ⟨t2, stp t2 a1, b1⟩
variable {y : MethodName} {bytes : ByteArray} {maxL d2 index cl ci N : Nat} {ret : Option FieldType} {As st0 : List Value} {fs : List Value} {T : u_T} {post2 : Option Value → g_V → g_L → Prop}
theorem j_callV (M : g_C G X.1 y bytes maxL ret d2 (.ref (g_a G cl) :: As) V S post2) (hd : decode cc pc = .ok (.invokevirtual index, 3)) (hst : st0 = As.reverse ++ .ref (g_a G cl) :: st)
    (hc : cl < g_N) (hE : g_E G (V cl) (S cl) cl = .inr (ci, fs)) (hcl : g_cl[ci]? = some (y.cls, T, N))
    (h1 : Cond.methodLink own index y ∈ lw_use) (h2 : Cond.instanceMethod y ∈ lw_use) (h3 : Cond.selects y.cls y y ∈ lw_use) (h4 : Cond.initialized y.cls ∈ lw_use) (h5 : Cond.code y bytes maxL ret ∈ lw_use)
    (hy : y.cls ≠ "java/lang/invoke/MethodHandle" ∧ y.cls ≠ "java/lang/invoke/VarHandle" ∧ (parseMethodDescriptor y.desc).map (fun d => d.parameters.length) = some As.length)
    (hR : d2 + 1 ≤ X.2.1.frames ∧ 8 + (maxL + 11) + 33 * d2 ≤ X.2.1.locals) (hf : X.2.2.2.2.1.1 ≤ X.2.1.cells ∧ X.2.2.2.2.1.2 ≤ X.2.1.slots) (hcat : (st.map fun v => v.category).sum ≤ 8)
    (kk : ∀ (v : Option Value) (V' : g_V) (S' : g_L), post2 v V' S' → JW G X cc own (pc + 3) lv (v.toList ++ st) V' S') : JW G X cc own pc lv st0 V S := by
  subst hst
  intro p e s m args below meth c Q C K H locs ls hl hP hS
  have hG : GoodIn lw_use (wsV own index y.cls y (Cond.code y bytes maxL ret :: lw_good)) := g_ok (fun w hw => by
    unfold wsV at hw
    rcases List.mem_append.mp hw with h | h
    · simp only [List.mem_cons, List.not_mem_nil, or_false] at h
      rcases h with rfl | rfl | rfl | rfl
      · exact ⟨h1, rfl⟩
      · exact ⟨h2, rfl⟩
      · exact ⟨h3, rfl⟩
      · exact ⟨h4, rfl⟩
    · exact g_okc h5 rfl w h)
  refine j_run C K hl hS (va_runV (As := As) (rest := st) (nL := c.maxLocals) (cc := cc) (Ts := lw_use) (own := own) ⟨C.1, C.2.1, rfl, C.2.2.1, C.2.2.2.1⟩ M (cwV As.length C.2.2.2.1 hG rfl rfl rfl ⟨rfl, hy⟩ hR) ⟨g_blind, va_recv C.2.2.2.2.1 hP hcl (by rw [g_W_get hc, hE]), fun U hU hW => ⟨rfl, g_B.at C hP hS hU hW⟩⟩ rfl rfl hl.1.1 rfl (lv_room hcat) hd hf) kk
theorem j_callS (M : g_C G X.1 y bytes maxL ret d2 As V S post2) (hd : decode cc pc = .ok (.invokestatic index, 3)) (hst : st0 = As.reverse ++ st)
    (h1 : Cond.methodLink own index y ∈ lw_use) (h2 : Cond.static y ∈ lw_use) (h4 : Cond.initialized y.cls ∈ lw_use) (h5 : Cond.code y bytes maxL ret ∈ lw_use)
    (hy : y.cls ≠ "java/lang/invoke/MethodHandle" ∧ y.cls ≠ "java/lang/invoke/VarHandle" ∧ (parseMethodDescriptor y.desc).map (fun d => d.parameters.length) = some As.length)
    (hR : d2 + 1 ≤ X.2.1.frames ∧ 8 + (maxL + 11) + 33 * d2 ≤ X.2.1.locals) (hf : X.2.2.2.2.1.1 ≤ X.2.1.cells ∧ X.2.2.2.2.1.2 ≤ X.2.1.slots) (hcat : (st.map fun v => v.category).sum ≤ 8)
    (kk : ∀ (v : Option Value) (V' : g_V) (S' : g_L), post2 v V' S' → JW G X cc own (pc + 3) lv (v.toList ++ st) V' S') : JW G X cc own pc lv st0 V S := by
  subst hst
  intro p e s m args below meth c Q C K H locs ls hl hP hS
  have hG : GoodIn lw_use (va_wsS own index y (Cond.code y bytes maxL ret :: lw_good)) := g_ok (fun w hw => by
    unfold va_wsS at hw
    rcases List.mem_append.mp hw with h | h
    · simp only [List.mem_cons, List.not_mem_nil, or_false] at h
      rcases h with rfl | rfl | rfl
      · exact ⟨h1, rfl⟩
      · exact ⟨h2, rfl⟩
      · exact ⟨h4, rfl⟩
    · exact g_okc h5 rfl w h)
  refine j_run C K hl hS (va_runS (As := As) (rest := st) (nL := c.maxLocals) (cc := cc) (Ts := lw_use) (own := own) ⟨C.1, C.2.1, rfl, C.2.2.1, C.2.2.2.1⟩ M (va_cwS As.length C.2.2.2.1 hG rfl rfl rfl hy hR) ⟨g_blind, fun U hU hW => ⟨rfl, g_B.at C hP hS hU hW⟩⟩ rfl rfl hl.1.1 rfl (lv_room hcat) hd hf) kk
theorem j_callVN {host : String} (M : g_C G X.1 y bytes maxL ret d2 (.ref (g_a G cl) :: As) V S post2) (hd : decode cc pc = .ok (.invokevirtual index, 3)) (hst : st0 = As.reverse ++ .ref (g_a G cl) :: st)
    (hc : cl < g_N) (hE : g_E G (V cl) (S cl) cl = .inr (ci, fs)) (hcl : g_cl[ci]? = some (y.cls, T, N))
    (h1 : Cond.methodLinkNest own index y host ∈ lw_use) (h2 : Cond.instanceMethod y ∈ lw_use) (h3 : Cond.selects y.cls y y ∈ lw_use) (h4 : Cond.initialized y.cls ∈ lw_use) (h5 : Cond.code y bytes maxL ret ∈ lw_use)
    (hy : y.cls ≠ "java/lang/invoke/MethodHandle" ∧ y.cls ≠ "java/lang/invoke/VarHandle" ∧ (parseMethodDescriptor y.desc).map (fun d => d.parameters.length) = some As.length)
    (hR : d2 + 1 ≤ X.2.1.frames ∧ 8 + (maxL + 11) + 33 * d2 ≤ X.2.1.locals) (hf : X.2.2.2.2.1.1 ≤ X.2.1.cells ∧ X.2.2.2.2.1.2 ≤ X.2.1.slots) (hcat : (st.map fun v => v.category).sum ≤ 8)
    (kk : ∀ (v : Option Value) (V' : g_V) (S' : g_L), post2 v V' S' → JW G X cc own (pc + 3) lv (v.toList ++ st) V' S') : JW G X cc own pc lv st0 V S := by
  subst hst
  intro p e s m args below meth c Q C K H locs ls hl hP hS
  refine j_run C K hl hS (va_runVN (As := As) (rest := st) (nL := c.maxLocals) (cc := cc) (Ts := lw_use) (own := own) ⟨C.1, C.2.1, rfl, C.2.2.1, C.2.2.2.1⟩ M ⟨va_cnB As.length C.2.2.2.1 (g_ok (g_okc h5 rfl)) rfl rfl rfl (va_Nw.of rfl (C.2.2.2.1 _ h1)) (C.2.2.2.1 _ h4) hy hR, C.2.2.2.1 _ h2, C.2.2.2.1 _ h3⟩ ⟨g_blind, va_recv C.2.2.2.2.1 hP hcl (by rw [g_W_get hc, hE]), fun U hU hW => ⟨rfl, g_B.at C hP hS hU hW⟩⟩ rfl rfl hl.1.1 rfl (lv_room hcat) hd hf) kk
theorem j_callSN {host : String} (M : g_C G X.1 y bytes maxL ret d2 As V S post2) (hd : decode cc pc = .ok (.invokestatic index, 3)) (hst : st0 = As.reverse ++ st)
    (h1 : Cond.methodLinkNest own index y host ∈ lw_use) (h2 : Cond.static y ∈ lw_use) (h4 : Cond.initialized y.cls ∈ lw_use) (h5 : Cond.code y bytes maxL ret ∈ lw_use)
    (hy : y.cls ≠ "java/lang/invoke/MethodHandle" ∧ y.cls ≠ "java/lang/invoke/VarHandle" ∧ (parseMethodDescriptor y.desc).map (fun d => d.parameters.length) = some As.length)
    (hR : d2 + 1 ≤ X.2.1.frames ∧ 8 + (maxL + 11) + 33 * d2 ≤ X.2.1.locals) (hf : X.2.2.2.2.1.1 ≤ X.2.1.cells ∧ X.2.2.2.2.1.2 ≤ X.2.1.slots) (hcat : (st.map fun v => v.category).sum ≤ 8)
    (kk : ∀ (v : Option Value) (V' : g_V) (S' : g_L), post2 v V' S' → JW G X cc own (pc + 3) lv (v.toList ++ st) V' S') : JW G X cc own pc lv st0 V S := by
  subst hst
  intro p e s m args below meth c Q C K H locs ls hl hP hS
  refine j_run C K hl hS (va_runSN (As := As) (rest := st) (nL := c.maxLocals) (cc := cc) (Ts := lw_use) (own := own) ⟨C.1, C.2.1, rfl, C.2.2.1, C.2.2.2.1⟩ M ⟨va_cnB As.length C.2.2.2.1 (g_ok (g_okc h5 rfl)) rfl rfl rfl (va_Nw.of rfl (C.2.2.2.1 _ h1)) (C.2.2.2.1 _ h4) hy hR, C.2.2.2.1 _ h2, trivial⟩ ⟨g_blind, fun U hU hW => ⟨rfl, g_B.at C hP hS hU hW⟩⟩ rfl rfl hl.1.1 rfl (lv_room hcat) hd hf) kk
/-- Math.max -/
theorem j_max {x y : Int32} (hd : decode cc pc = .ok (.invokestatic index, 3)) (h1 : Cond.methodLink own index Lib.Math.max.name ∈ lw_use) (h2 : Cond.static Lib.Math.max.name ∈ lw_use) (h4 : Cond.initialized "java/lang/Math" ∈ lw_use) (h5 : Cond.code Lib.Math.max.name Lib.Math.max.code 2 (some .int) ∈ lw_use)
    (hR : 1 ≤ X.2.1.frames ∧ 21 ≤ X.2.1.locals) (hf : X.2.2.2.2.1.1 ≤ X.2.1.cells ∧ X.2.2.2.2.1.2 ≤ X.2.1.slots) (hcat : (st.map fun v => v.category).sum ≤ 8)
    (kk : JW G X cc own (pc + 3) lv (.int (if x < y then y else x) :: st) V S) : JW G X cc own pc lv (.int y :: .int x :: st) V S :=
  fun p e s m args below meth c Q C K H locs ls hl hP hS => va_mmax C.1 C.2.1 hl.1.1.symm C.2.2.1 (C.2.2.2.1 _ h1) (C.2.2.2.1 _ h2) (C.2.2.2.1 _ h4) (C.2.2.2.1 _ h5) hR.1 (by omega) hf.1 hf.2 hd (kk p e s m args below meth c Q C K H locs ls hl hP hS)
/-- a field -/
theorem j_get {k : Nat} {Cn : String} {v : Value} (hd : decode cc pc = .ok (.getfield index, 3)) (hc : cl < g_N) (hE : g_E G (V cl) (S cl) cl = .inr (ci, fs)) (hcl : g_cl[ci]? = some (Cn, T, N)) (hin : ∀ w ∈ u_ws Cn T N, w ∈ lw_use) (hk : k < N) (hn : (T k).1 = Cn) (hw : Cond.fieldLink own index Cn (T k).2.1 (T k).2.2.1 ∈ lw_use) (hv : fs[k]? = some v)
    (kk : JW G X cc own (pc + 3) lv (v :: st) V S) : JW G X cc own pc lv (.ref (g_a G cl) :: st) V S :=
  fun p e s m args below meth c Q C K H locs ls hl hP hS => va_get C.1 C.2.1 C.2.2.2.1 hin C.2.2.1 C.2.2.2.2.1 hP cl (by rw [g_W_get hc, hE]) hcl k hk (C.2.2.2.1 _ hw) (fun x h => by rw [hn] at h; exact h) hv hd (kk p e s m args below meth c Q C K H locs ls hl hP hS)
theorem j_getN {k : Nat} {Cn host : String} {v : Value} (hd : decode cc pc = .ok (.getfield index, 3)) (hc : cl < g_N) (hE : g_E G (V cl) (S cl) cl = .inr (ci, fs)) (hcl : g_cl[ci]? = some (Cn, T, N)) (hin : ∀ w ∈ u_ws Cn T N, w ∈ lw_use) (hk : k < N) (hn : (T k).1 = Cn) (hw : Cond.fieldLinkNest own index Cn (T k).2.1 (T k).2.2.1 host ∈ lw_use) (hv : fs[k]? = some v)
    (kk : JW G X cc own (pc + 3) lv (v :: st) V S) : JW G X cc own pc lv (.ref (g_a G cl) :: st) V S :=
  fun p e s m args below meth c Q C K H locs ls hl hP hS => va_getN C.1 C.2.1 C.2.2.2.1 hin C.2.2.1 C.2.2.2.2.1 hP cl (by rw [g_W_get hc, hE]) hcl k hk (C.2.2.2.1 _ hw) (fun x h => by rw [hn] at h; exact h) hv hd (kk p e s m args below meth c Q C K H locs ls hl hP hS)
theorem j_put {k : Nat} {Cn : String} {v : Value} {ty0 : Nat → FieldType} {V' : g_V} {S' : g_L} (hd : decode cc pc = .ok (.putfield index, 3)) (hc : cl < g_N) (hE : g_E G (V cl) (S cl) cl = .inr (ci, fs)) (hcl : g_cl[ci]? = some (Cn, T, N)) (hin : ∀ w ∈ u_ws Cn T N, w ∈ lw_use) (hty : ∀ k, k < N → parseFieldDescriptor (T k).2.2.1 = some (ty0 k)) (hnm : ∀ a, a < N → ∀ b, b < N → a ≠ b → (T a).2.1 ≠ (T b).2.1) (hk : k < N) (hn : (T k).1 = Cn) (hw : Cond.fieldLink own index Cn (T k).2.1 (T k).2.2.1 ∈ lw_use) (hfin : (T k).2.2.2 = false) (hnar : narrow (ty0 k) v = v) (hfit : fits (ty0 k) v = true) (hlen : k < fs.length)
    (hV : ∀ c', c' ≠ cl → V' c' = V c' ∧ S' c' = S c') (hE' : .inr (ci, fs.set k v) = g_E G (V' cl) (S' cl) cl)
    (kk : JW G X cc own (pc + 3) lv st V' S') : JW G X cc own pc lv (v :: .ref (g_a G cl) :: st) V S :=
  fun p e s m args below meth c Q C K H locs ls hl hP hS => va_put C.1 C.2.1 C.2.2.2.1 hin ty0 hty hnm C.2.2.1 C.2.2.2.2.1 hP (g_D C.2.2.2.2.2.1 C.2.2.2.2.2.2.1 V S) hS cl (by rw [g_W_get hc, hE]) hcl k hk (C.2.2.2.1 _ hw) (fun x h => by rw [hn] at h; exact h) hfin (hty k hk) hnar hfit hlen hd (fun H1 locs1 hP1 hD1 hS1 => kk p e s m args below meth c Q C K H1 locs1 ls hl (by
    rw [g_W_set hV hE'] at hP1
    exact hP1) hS1)
theorem j_putN {k : Nat} {Cn host : String} {v : Value} {ty0 : Nat → FieldType} {V' : g_V} {S' : g_L} (hd : decode cc pc = .ok (.putfield index, 3)) (hc : cl < g_N) (hE : g_E G (V cl) (S cl) cl = .inr (ci, fs)) (hcl : g_cl[ci]? = some (Cn, T, N)) (hin : ∀ w ∈ u_ws Cn T N, w ∈ lw_use) (hty : ∀ k, k < N → parseFieldDescriptor (T k).2.2.1 = some (ty0 k)) (hnm : ∀ a, a < N → ∀ b, b < N → a ≠ b → (T a).2.1 ≠ (T b).2.1) (hk : k < N) (hn : (T k).1 = Cn) (hw : Cond.fieldLinkNest own index Cn (T k).2.1 (T k).2.2.1 host ∈ lw_use) (hfin : (T k).2.2.2 = false) (hnar : narrow (ty0 k) v = v) (hfit : fits (ty0 k) v = true) (hlen : k < fs.length)
    (hV : ∀ c', c' ≠ cl → V' c' = V c' ∧ S' c' = S c') (hE' : .inr (ci, fs.set k v) = g_E G (V' cl) (S' cl) cl)
    (kk : JW G X cc own (pc + 3) lv st V' S') : JW G X cc own pc lv (v :: .ref (g_a G cl) :: st) V S :=
  fun p e s m args below meth c Q C K H locs ls hl hP hS => va_putN C.1 C.2.1 C.2.2.2.1 hin ty0 hty hnm C.2.2.1 C.2.2.2.2.1 hP (g_D C.2.2.2.2.2.1 C.2.2.2.2.2.2.1 V S) hS cl (by rw [g_W_get hc, hE]) hcl k hk (C.2.2.2.1 _ hw) (fun x h => by rw [hn] at h; exact h) hfin (hty k hk) hnar hfit hlen hd (fun H1 locs1 hP1 hD1 hS1 => kk p e s m args below meth c Q C K H1 locs1 ls hl (by
    rw [g_W_set hV hE'] at hP1
    exact hP1) hS1)
theorem j_getsG (hd : decode cc pc = .ok (.getstatic index, 3)) (hw : Cond.fieldLink own index R_D "GREATEST" "[I" ∈ lw_use) (kk : JW G X cc own (pc + 3) lv (.ref G.2.2.2.1 :: st) V S) : JW G X cc own pc lv st V S :=
  fun p e s m args below meth c Q C K H locs ls hl hP hS => va_gets C.1 C.2.1 C.2.2.2.2.2.2.2.1.1.1 hS C.2.2.1 (C.2.2.2.1 _ hw) (fun x h => h) hd (kk p e s m args below meth c Q C K H locs ls hl hP hS)
theorem j_getsGN {host : String} (hd : decode cc pc = .ok (.getstatic index, 3)) (hw : Cond.fieldLinkNest own index R_D "GREATEST" "[I" host ∈ lw_use) (kk : JW G X cc own (pc + 3) lv (.ref G.2.2.2.1 :: st) V S) : JW G X cc own pc lv st V S :=
  fun p e s m args below meth c Q C K H locs ls hl hP hS => va_getsN C.1 C.2.1 C.2.2.2.2.2.2.2.1.1.1 hS C.2.2.1 (C.2.2.2.1 _ hw) (fun x h => h) hd (kk p e s m args below meth c Q C K H locs ls hl hP hS)
theorem j_getsO (hd : decode cc pc = .ok (.getstatic index, 3)) (hw : Cond.fieldLink own index R_D "ORDERS" "[I" ∈ lw_use) (kk : JW G X cc own (pc + 3) lv (.ref G.2.2.2.2 :: st) V S) : JW G X cc own pc lv st V S :=
  fun p e s m args below meth c Q C K H locs ls hl hP hS => va_gets C.1 C.2.1 C.2.2.2.2.2.2.2.1.2.1 hS C.2.2.1 (C.2.2.2.1 _ hw) (fun x h => h) hd (kk p e s m args below meth c Q C K H locs ls hl hP hS)
end CTR
end
