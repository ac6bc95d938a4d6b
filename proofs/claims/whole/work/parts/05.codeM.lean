/-! The reference: the same. -/
abbrev b_M_init : ByteArray := prog_5_method_1_code
def y_M_init : MethodName := ⟨R_M, "<init>", "()V"⟩
theorem mc_M_init : Cond.code y_M_init b_M_init 1 none ∈ lw_use := g_use (List.mem_of_getElem? (i := 469) (by decide +kernel)) rfl
theorem d_M_init_0 : decode b_M_init 0 = .ok (.aload_n 0, 1) := by decide +kernel
theorem d_M_init_1 : decode b_M_init 1 = .ok (.invokespecial 1, 3) := by decide +kernel
theorem d_M_init_4 : decode b_M_init 4 = .ok (.aload_n 0, 1) := by decide +kernel
theorem d_M_init_5 : decode b_M_init 5 = .ok (.bipush 48, 2) := by decide +kernel
theorem d_M_init_7 : decode b_M_init 7 = .ok (.newarray .int, 2) := by decide +kernel
theorem d_M_init_9 : decode b_M_init 9 = .ok (.putfield 7, 3) := by decide +kernel
theorem d_M_init_12 : decode b_M_init 12 = .ok (.aload_n 0, 1) := by decide +kernel
theorem d_M_init_13 : decode b_M_init 13 = .ok (.bipush 6, 2) := by decide +kernel
theorem d_M_init_15 : decode b_M_init 15 = .ok (.newarray .int, 2) := by decide +kernel
theorem d_M_init_17 : decode b_M_init 17 = .ok (.putfield 13, 3) := by decide +kernel
theorem d_M_init_20 : decode b_M_init 20 = .ok (.aload_n 0, 1) := by decide +kernel
theorem d_M_init_21 : decode b_M_init 21 = .ok (.bipush 6, 2) := by decide +kernel
theorem d_M_init_23 : decode b_M_init 23 = .ok (.newarray .int, 2) := by decide +kernel
theorem d_M_init_25 : decode b_M_init 25 = .ok (.putfield 16, 3) := by decide +kernel
theorem d_M_init_28 : decode b_M_init 28 = .ok (.aload_n 0, 1) := by decide +kernel
theorem d_M_init_29 : decode b_M_init 29 = .ok (.bipush 6, 2) := by decide +kernel
theorem d_M_init_31 : decode b_M_init 31 = .ok (.newarray .int, 2) := by decide +kernel
theorem d_M_init_33 : decode b_M_init 33 = .ok (.putfield 19, 3) := by decide +kernel
theorem d_M_init_36 : decode b_M_init 36 = .ok (.aload_n 0, 1) := by decide +kernel
theorem d_M_init_37 : decode b_M_init 37 = .ok (.bipush 30, 2) := by decide +kernel
theorem d_M_init_39 : decode b_M_init 39 = .ok (.newarray .int, 2) := by decide +kernel
theorem d_M_init_41 : decode b_M_init 41 = .ok (.putfield 22, 3) := by decide +kernel
theorem d_M_init_44 : decode b_M_init 44 = .ok (.aload_n 0, 1) := by decide +kernel
theorem d_M_init_45 : decode b_M_init 45 = .ok (.bipush 57, 2) := by decide +kernel
theorem d_M_init_47 : decode b_M_init 47 = .ok (.newarray .int, 2) := by decide +kernel
theorem d_M_init_49 : decode b_M_init 49 = .ok (.putfield 25, 3) := by decide +kernel
theorem d_M_init_52 : decode b_M_init 52 = .ok (.aload_n 0, 1) := by decide +kernel
theorem d_M_init_53 : decode b_M_init 53 = .ok (.bipush 57, 2) := by decide +kernel
theorem d_M_init_55 : decode b_M_init 55 = .ok (.newarray .int, 2) := by decide +kernel
theorem d_M_init_57 : decode b_M_init 57 = .ok (.putfield 28, 3) := by decide +kernel
theorem d_M_init_60 : decode b_M_init 60 = .ok (.aload_n 0, 1) := by decide +kernel
theorem d_M_init_61 : decode b_M_init 61 = .ok (.sipush 798, 3) := by decide +kernel
theorem d_M_init_64 : decode b_M_init 64 = .ok (.newarray .int, 2) := by decide +kernel
theorem d_M_init_66 : decode b_M_init 66 = .ok (.putfield 31, 3) := by decide +kernel
theorem d_M_init_69 : decode b_M_init 69 = .ok (.aload_n 0, 1) := by decide +kernel
theorem d_M_init_70 : decode b_M_init 70 = .ok (.bipush 114, 2) := by decide +kernel
theorem d_M_init_72 : decode b_M_init 72 = .ok (.newarray .int, 2) := by decide +kernel
theorem d_M_init_74 : decode b_M_init 74 = .ok (.putfield 34, 3) := by decide +kernel
theorem d_M_init_77 : decode b_M_init 77 = .ok (.aload_n 0, 1) := by decide +kernel
theorem d_M_init_78 : decode b_M_init 78 = .ok (.iconst 2, 1) := by decide +kernel
theorem d_M_init_79 : decode b_M_init 79 = .ok (.newarray .boolean, 2) := by decide +kernel
theorem d_M_init_81 : decode b_M_init 81 = .ok (.putfield 37, 3) := by decide +kernel
theorem d_M_init_84 : decode b_M_init 84 = .ok (.aload_n 0, 1) := by decide +kernel
theorem d_M_init_85 : decode b_M_init 85 = .ok (.bipush 64, 2) := by decide +kernel
theorem d_M_init_87 : decode b_M_init 87 = .ok (.newarray .int, 2) := by decide +kernel
theorem d_M_init_89 : decode b_M_init 89 = .ok (.putfield 41, 3) := by decide +kernel
theorem d_M_init_92 : decode b_M_init 92 = .ok (.aload_n 0, 1) := by decide +kernel
theorem d_M_init_93 : decode b_M_init 93 = .ok (.bipush 64, 2) := by decide +kernel
theorem d_M_init_95 : decode b_M_init 95 = .ok (.newarray .int, 2) := by decide +kernel
theorem d_M_init_97 : decode b_M_init 97 = .ok (.putfield 44, 3) := by decide +kernel
theorem d_M_init_100 : decode b_M_init 100 = .ok (.return_, 1) := by decide +kernel
abbrev b_M_in : ByteArray := prog_5_method_3_code
def y_M_in : MethodName := ⟨R_M, "in", "(JJJ)Z"⟩
theorem mc_M_in : Cond.code y_M_in b_M_in 6 (Option.some .boolean) ∈ lw_use := g_use (List.mem_of_getElem? (i := 552) (by decide +kernel)) rfl
theorem d_M_in_0 : decode b_M_in 0 = .ok (.lload_n 0, 1) := by decide +kernel
theorem d_M_in_1 : decode b_M_in 1 = .ok (.lload_n 2, 1) := by decide +kernel
theorem d_M_in_2 : decode b_M_in 2 = .ok (.lcmp, 1) := by decide +kernel
theorem d_M_in_3 : decode b_M_in 3 = .ok (.ifCond .lt 14, 3) := by decide +kernel
theorem d_M_in_6 : decode b_M_in 6 = .ok (.lload_n 0, 1) := by decide +kernel
theorem d_M_in_7 : decode b_M_in 7 = .ok (.lload 4, 2) := by decide +kernel
theorem d_M_in_9 : decode b_M_in 9 = .ok (.lcmp, 1) := by decide +kernel
theorem d_M_in_10 : decode b_M_in 10 = .ok (.ifCond .gt 7, 3) := by decide +kernel
theorem d_M_in_13 : decode b_M_in 13 = .ok (.iconst 1, 1) := by decide +kernel
theorem d_M_in_14 : decode b_M_in 14 = .ok (.goto 4, 3) := by decide +kernel
theorem d_M_in_17 : decode b_M_in 17 = .ok (.iconst 0, 1) := by decide +kernel
theorem d_M_in_18 : decode b_M_in 18 = .ok (.ireturn, 1) := by decide +kernel
abbrev b_M_has : ByteArray := prog_5_method_4_code
def y_M_has : MethodName := ⟨R_M, "has", "(II)Z"⟩
theorem mc_M_has : Cond.code y_M_has b_M_has 2 (Option.some .boolean) ∈ lw_use := g_use (List.mem_of_getElem? (i := 587) (by decide +kernel)) rfl
theorem d_M_has_0 : decode b_M_has 0 = .ok (.iload_n 0, 1) := by decide +kernel
theorem d_M_has_1 : decode b_M_has 1 = .ok (.iload_n 1, 1) := by decide +kernel
theorem d_M_has_2 : decode b_M_has 2 = .ok (.ishr, 1) := by decide +kernel
theorem d_M_has_3 : decode b_M_has 3 = .ok (.iconst 1, 1) := by decide +kernel
theorem d_M_has_4 : decode b_M_has 4 = .ok (.iand, 1) := by decide +kernel
theorem d_M_has_5 : decode b_M_has 5 = .ok (.iconst 1, 1) := by decide +kernel
theorem d_M_has_6 : decode b_M_has 6 = .ok (.if_icmp .ne 7, 3) := by decide +kernel
theorem d_M_has_9 : decode b_M_has 9 = .ok (.iconst 1, 1) := by decide +kernel
theorem d_M_has_10 : decode b_M_has 10 = .ok (.goto 4, 3) := by decide +kernel
theorem d_M_has_13 : decode b_M_has 13 = .ok (.iconst 0, 1) := by decide +kernel
theorem d_M_has_14 : decode b_M_has 14 = .ok (.ireturn, 1) := by decide +kernel
abbrev b_M_many : ByteArray := prog_5_method_5_code
def y_M_many : MethodName := ⟨R_M, "many", "(I)I"⟩
theorem mc_M_many : Cond.code y_M_many b_M_many 3 (Option.some .int) ∈ lw_use := g_use (List.mem_of_getElem? (i := 747) (by decide +kernel)) rfl
theorem d_M_many_0 : decode b_M_many 0 = .ok (.iconst 0, 1) := by decide +kernel
theorem d_M_many_1 : decode b_M_many 1 = .ok (.istore_n 1, 1) := by decide +kernel
theorem d_M_many_2 : decode b_M_many 2 = .ok (.iconst 0, 1) := by decide +kernel
theorem d_M_many_3 : decode b_M_many 3 = .ok (.istore_n 2, 1) := by decide +kernel
theorem d_M_many_4 : decode b_M_many 4 = .ok (.iload_n 2, 1) := by decide +kernel
theorem d_M_many_5 : decode b_M_many 5 = .ok (.bipush 6, 2) := by decide +kernel
theorem d_M_many_7 : decode b_M_many 7 = .ok (.if_icmp .ge 17, 3) := by decide +kernel
theorem d_M_many_10 : decode b_M_many 10 = .ok (.iload_n 1, 1) := by decide +kernel
theorem d_M_many_11 : decode b_M_many 11 = .ok (.iload_n 0, 1) := by decide +kernel
theorem d_M_many_12 : decode b_M_many 12 = .ok (.iload_n 2, 1) := by decide +kernel
theorem d_M_many_13 : decode b_M_many 13 = .ok (.ishr, 1) := by decide +kernel
theorem d_M_many_14 : decode b_M_many 14 = .ok (.iconst 1, 1) := by decide +kernel
theorem d_M_many_15 : decode b_M_many 15 = .ok (.iand, 1) := by decide +kernel
theorem d_M_many_16 : decode b_M_many 16 = .ok (.iadd, 1) := by decide +kernel
theorem d_M_many_17 : decode b_M_many 17 = .ok (.istore_n 1, 1) := by decide +kernel
theorem d_M_many_18 : decode b_M_many 18 = .ok (.iinc 2 1, 3) := by decide +kernel
theorem d_M_many_21 : decode b_M_many 21 = .ok (.goto (-17), 3) := by decide +kernel
theorem d_M_many_24 : decode b_M_many 24 = .ok (.iload_n 1, 1) := by decide +kernel
theorem d_M_many_25 : decode b_M_many 25 = .ok (.ireturn, 1) := by decide +kernel
abbrev b_M_noFarm : ByteArray := prog_5_method_6_code
def y_M_noFarm : MethodName := ⟨R_M, "noFarm", "(I)Z"⟩
theorem mc_M_noFarm : Cond.code y_M_noFarm b_M_noFarm 2 (Option.some .boolean) ∈ lw_use := g_use (List.mem_of_getElem? (i := 611) (by decide +kernel)) rfl
theorem d_M_noFarm_0 : decode b_M_noFarm 0 = .ok (.iload_n 1, 1) := by decide +kernel
theorem d_M_noFarm_1 : decode b_M_noFarm 1 = .ok (.i2l, 1) := by decide +kernel
theorem d_M_noFarm_2 : decode b_M_noFarm 2 = .ok (.lconst 0, 1) := by decide +kernel
theorem d_M_noFarm_3 : decode b_M_noFarm 3 = .ok (.aload_n 0, 1) := by decide +kernel
theorem d_M_noFarm_4 : decode b_M_noFarm 4 = .ok (.getfield 51, 3) := by decide +kernel
theorem d_M_noFarm_7 : decode b_M_noFarm 7 = .ok (.iconst 1, 1) := by decide +kernel
theorem d_M_noFarm_8 : decode b_M_noFarm 8 = .ok (.isub, 1) := by decide +kernel
theorem d_M_noFarm_9 : decode b_M_noFarm 9 = .ok (.i2l, 1) := by decide +kernel
theorem d_M_noFarm_10 : decode b_M_noFarm 10 = .ok (.invokestatic 54, 3) := by decide +kernel
theorem d_M_noFarm_13 : decode b_M_noFarm 13 = .ok (.ifCond .ne 7, 3) := by decide +kernel
theorem d_M_noFarm_16 : decode b_M_noFarm 16 = .ok (.iconst 1, 1) := by decide +kernel
theorem d_M_noFarm_17 : decode b_M_noFarm 17 = .ok (.goto 4, 3) := by decide +kernel
theorem d_M_noFarm_20 : decode b_M_noFarm 20 = .ok (.iconst 0, 1) := by decide +kernel
theorem d_M_noFarm_21 : decode b_M_noFarm 21 = .ok (.ireturn, 1) := by decide +kernel
abbrev b_M_noStorm : ByteArray := prog_5_method_7_code
def y_M_noStorm : MethodName := ⟨R_M, "noStorm", "(I)Z"⟩
theorem mc_M_noStorm : Cond.code y_M_noStorm b_M_noStorm 1 (Option.some .boolean) ∈ lw_use := g_use (List.mem_of_getElem? (i := 626) (by decide +kernel)) rfl
theorem d_M_noStorm_0 : decode b_M_noStorm 0 = .ok (.iload_n 0, 1) := by decide +kernel
theorem d_M_noStorm_1 : decode b_M_noStorm 1 = .ok (.i2l, 1) := by decide +kernel
theorem d_M_noStorm_2 : decode b_M_noStorm 2 = .ok (.lconst 0, 1) := by decide +kernel
theorem d_M_noStorm_3 : decode b_M_noStorm 3 = .ok (.ldc2_w 58, 3) := by decide +kernel
theorem d_M_noStorm_6 : decode b_M_noStorm 6 = .ok (.invokestatic 54, 3) := by decide +kernel
theorem d_M_noStorm_9 : decode b_M_noStorm 9 = .ok (.ifCond .ne 7, 3) := by decide +kernel
theorem d_M_noStorm_12 : decode b_M_noStorm 12 = .ok (.iconst 1, 1) := by decide +kernel
theorem d_M_noStorm_13 : decode b_M_noStorm 13 = .ok (.goto 4, 3) := by decide +kernel
theorem d_M_noStorm_16 : decode b_M_noStorm 16 = .ok (.iconst 0, 1) := by decide +kernel
theorem d_M_noStorm_17 : decode b_M_noStorm 17 = .ok (.ireturn, 1) := by decide +kernel
abbrev b_M_everyone : ByteArray := prog_5_method_8_code
def y_M_everyone : MethodName := ⟨R_M, "everyone", "()I"⟩
theorem mc_M_everyone : Cond.code y_M_everyone b_M_everyone 1 (Option.some .int) ∈ lw_use := g_use (List.mem_of_getElem? (i := 599) (by decide +kernel)) rfl
theorem d_M_everyone_0 : decode b_M_everyone 0 = .ok (.iconst 1, 1) := by decide +kernel
theorem d_M_everyone_1 : decode b_M_everyone 1 = .ok (.aload_n 0, 1) := by decide +kernel
theorem d_M_everyone_2 : decode b_M_everyone 2 = .ok (.getfield 51, 3) := by decide +kernel
theorem d_M_everyone_5 : decode b_M_everyone 5 = .ok (.ishl, 1) := by decide +kernel
theorem d_M_everyone_6 : decode b_M_everyone 6 = .ok (.iconst 1, 1) := by decide +kernel
theorem d_M_everyone_7 : decode b_M_everyone 7 = .ok (.isub, 1) := by decide +kernel
theorem d_M_everyone_8 : decode b_M_everyone 8 = .ok (.ireturn, 1) := by decide +kernel
abbrev b_M_write : ByteArray := prog_5_method_9_code
def y_M_write : MethodName := ⟨R_M, "write", "(I)I"⟩
theorem mc_M_write : Cond.code y_M_write b_M_write 2 (Option.some .int) ∈ lw_use := g_use (List.mem_of_getElem? (i := 548) (by decide +kernel)) rfl
theorem d_M_write_0 : decode b_M_write 0 = .ok (.aload_n 0, 1) := by decide +kernel
theorem d_M_write_1 : decode b_M_write 1 = .ok (.iconst 0, 1) := by decide +kernel
theorem d_M_write_2 : decode b_M_write 2 = .ok (.putfield 47, 3) := by decide +kernel
theorem d_M_write_5 : decode b_M_write 5 = .ok (.iload_n 1, 1) := by decide +kernel
theorem d_M_write_6 : decode b_M_write 6 = .ok (.i2l, 1) := by decide +kernel
theorem d_M_write_7 : decode b_M_write 7 = .ok (.lconst 0, 1) := by decide +kernel
theorem d_M_write_8 : decode b_M_write 8 = .ok (.ldc2_w 60, 3) := by decide +kernel
theorem d_M_write_11 : decode b_M_write 11 = .ok (.invokestatic 54, 3) := by decide +kernel
theorem d_M_write_14 : decode b_M_write 14 = .ok (.ifCond .ne 6, 3) := by decide +kernel
theorem d_M_write_17 : decode b_M_write 17 = .ok (.bipush (-2), 2) := by decide +kernel
theorem d_M_write_19 : decode b_M_write 19 = .ok (.ireturn, 1) := by decide +kernel
theorem d_M_write_20 : decode b_M_write 20 = .ok (.aload_n 0, 1) := by decide +kernel
theorem d_M_write_21 : decode b_M_write 21 = .ok (.getfield 62, 3) := by decide +kernel
theorem d_M_write_24 : decode b_M_write 24 = .ok (.bipush 48, 2) := by decide +kernel
theorem d_M_write_26 : decode b_M_write 26 = .ok (.if_icmp .ne 6, 3) := by decide +kernel
theorem d_M_write_29 : decode b_M_write 29 = .ok (.bipush (-4), 2) := by decide +kernel
theorem d_M_write_31 : decode b_M_write 31 = .ok (.ireturn, 1) := by decide +kernel
theorem d_M_write_32 : decode b_M_write 32 = .ok (.aload_n 0, 1) := by decide +kernel
theorem d_M_write_33 : decode b_M_write 33 = .ok (.getfield 7, 3) := by decide +kernel
theorem d_M_write_36 : decode b_M_write 36 = .ok (.aload_n 0, 1) := by decide +kernel
theorem d_M_write_37 : decode b_M_write 37 = .ok (.getfield 62, 3) := by decide +kernel
theorem d_M_write_40 : decode b_M_write 40 = .ok (.iload_n 1, 1) := by decide +kernel
theorem d_M_write_41 : decode b_M_write 41 = .ok (.iastore, 1) := by decide +kernel
theorem d_M_write_42 : decode b_M_write 42 = .ok (.aload_n 0, 1) := by decide +kernel
theorem d_M_write_43 : decode b_M_write 43 = .ok (.dup, 1) := by decide +kernel
theorem d_M_write_44 : decode b_M_write 44 = .ok (.getfield 62, 3) := by decide +kernel
theorem d_M_write_47 : decode b_M_write 47 = .ok (.iconst 1, 1) := by decide +kernel
theorem d_M_write_48 : decode b_M_write 48 = .ok (.iadd, 1) := by decide +kernel
theorem d_M_write_49 : decode b_M_write 49 = .ok (.putfield 62, 3) := by decide +kernel
theorem d_M_write_52 : decode b_M_write 52 = .ok (.aload_n 0, 1) := by decide +kernel
theorem d_M_write_53 : decode b_M_write 53 = .ok (.getfield 62, 3) := by decide +kernel
theorem d_M_write_56 : decode b_M_write 56 = .ok (.ireturn, 1) := by decide +kernel
abbrev b_M_wipe : ByteArray := prog_5_method_10_code
def y_M_wipe : MethodName := ⟨R_M, "wipe", "()I"⟩
theorem mc_M_wipe : Cond.code y_M_wipe b_M_wipe 2 (Option.some .int) ∈ lw_use := g_use (List.mem_of_getElem? (i := 556) (by decide +kernel)) rfl
theorem d_M_wipe_0 : decode b_M_wipe 0 = .ok (.aload_n 0, 1) := by decide +kernel
theorem d_M_wipe_1 : decode b_M_wipe 1 = .ok (.iconst 0, 1) := by decide +kernel
theorem d_M_wipe_2 : decode b_M_wipe 2 = .ok (.putfield 47, 3) := by decide +kernel
theorem d_M_wipe_5 : decode b_M_wipe 5 = .ok (.aload_n 0, 1) := by decide +kernel
theorem d_M_wipe_6 : decode b_M_wipe 6 = .ok (.getfield 62, 3) := by decide +kernel
theorem d_M_wipe_9 : decode b_M_wipe 9 = .ok (.istore_n 1, 1) := by decide +kernel
theorem d_M_wipe_10 : decode b_M_wipe 10 = .ok (.aload_n 0, 1) := by decide +kernel
theorem d_M_wipe_11 : decode b_M_wipe 11 = .ok (.iconst 0, 1) := by decide +kernel
theorem d_M_wipe_12 : decode b_M_wipe 12 = .ok (.putfield 62, 3) := by decide +kernel
theorem d_M_wipe_15 : decode b_M_wipe 15 = .ok (.iload_n 1, 1) := by decide +kernel
theorem d_M_wipe_16 : decode b_M_wipe 16 = .ok (.ireturn, 1) := by decide +kernel
abbrev b_M_figure : ByteArray := prog_5_method_11_code
def y_M_figure : MethodName := ⟨R_M, "figure", "(II)I"⟩
theorem mc_M_figure : Cond.code y_M_figure b_M_figure 3 (Option.some .int) ∈ lw_use := g_use (List.mem_of_getElem? (i := 576) (by decide +kernel)) rfl
theorem d_M_figure_0 : decode b_M_figure 0 = .ok (.aload_n 0, 1) := by decide +kernel
theorem d_M_figure_1 : decode b_M_figure 1 = .ok (.getfield 65, 3) := by decide +kernel
theorem d_M_figure_4 : decode b_M_figure 4 = .ok (.aload_n 0, 1) := by decide +kernel
theorem d_M_figure_5 : decode b_M_figure 5 = .ok (.getfield 62, 3) := by decide +kernel
theorem d_M_figure_8 : decode b_M_figure 8 = .ok (.if_icmp .eq 26, 3) := by decide +kernel
theorem d_M_figure_11 : decode b_M_figure 11 = .ok (.aload_n 0, 1) := by decide +kernel
theorem d_M_figure_12 : decode b_M_figure 12 = .ok (.getfield 7, 3) := by decide +kernel
theorem d_M_figure_15 : decode b_M_figure 15 = .ok (.aload_n 0, 1) := by decide +kernel
theorem d_M_figure_16 : decode b_M_figure 16 = .ok (.getfield 65, 3) := by decide +kernel
theorem d_M_figure_19 : decode b_M_figure 19 = .ok (.iaload, 1) := by decide +kernel
theorem d_M_figure_20 : decode b_M_figure 20 = .ok (.bipush 48, 2) := by decide +kernel
theorem d_M_figure_22 : decode b_M_figure 22 = .ok (.isub, 1) := by decide +kernel
theorem d_M_figure_23 : decode b_M_figure 23 = .ok (.i2l, 1) := by decide +kernel
theorem d_M_figure_24 : decode b_M_figure 24 = .ok (.iload_n 1, 1) := by decide +kernel
theorem d_M_figure_25 : decode b_M_figure 25 = .ok (.i2l, 1) := by decide +kernel
theorem d_M_figure_26 : decode b_M_figure 26 = .ok (.iload_n 2, 1) := by decide +kernel
theorem d_M_figure_27 : decode b_M_figure 27 = .ok (.i2l, 1) := by decide +kernel
theorem d_M_figure_28 : decode b_M_figure 28 = .ok (.invokestatic 54, 3) := by decide +kernel
theorem d_M_figure_31 : decode b_M_figure 31 = .ok (.ifCond .ne 6, 3) := by decide +kernel
theorem d_M_figure_34 : decode b_M_figure 34 = .ok (.bipush (-9), 2) := by decide +kernel
theorem d_M_figure_36 : decode b_M_figure 36 = .ok (.ireturn, 1) := by decide +kernel
theorem d_M_figure_37 : decode b_M_figure 37 = .ok (.aload_n 0, 1) := by decide +kernel
theorem d_M_figure_38 : decode b_M_figure 38 = .ok (.dup, 1) := by decide +kernel
theorem d_M_figure_39 : decode b_M_figure 39 = .ok (.getfield 65, 3) := by decide +kernel
theorem d_M_figure_42 : decode b_M_figure 42 = .ok (.iconst 1, 1) := by decide +kernel
theorem d_M_figure_43 : decode b_M_figure 43 = .ok (.iadd, 1) := by decide +kernel
theorem d_M_figure_44 : decode b_M_figure 44 = .ok (.putfield 65, 3) := by decide +kernel
theorem d_M_figure_47 : decode b_M_figure 47 = .ok (.aload_n 0, 1) := by decide +kernel
theorem d_M_figure_48 : decode b_M_figure 48 = .ok (.getfield 7, 3) := by decide +kernel
theorem d_M_figure_51 : decode b_M_figure 51 = .ok (.aload_n 0, 1) := by decide +kernel
theorem d_M_figure_52 : decode b_M_figure 52 = .ok (.getfield 65, 3) := by decide +kernel
theorem d_M_figure_55 : decode b_M_figure 55 = .ok (.iconst 1, 1) := by decide +kernel
theorem d_M_figure_56 : decode b_M_figure 56 = .ok (.isub, 1) := by decide +kernel
theorem d_M_figure_57 : decode b_M_figure 57 = .ok (.iaload, 1) := by decide +kernel
theorem d_M_figure_58 : decode b_M_figure 58 = .ok (.bipush 48, 2) := by decide +kernel
theorem d_M_figure_60 : decode b_M_figure 60 = .ok (.isub, 1) := by decide +kernel
theorem d_M_figure_61 : decode b_M_figure 61 = .ok (.ireturn, 1) := by decide +kernel
abbrev b_M_readFarm : ByteArray := prog_5_method_12_code
def y_M_readFarm : MethodName := ⟨R_M, "readFarm", "()Z"⟩
theorem mc_M_readFarm : Cond.code y_M_readFarm b_M_readFarm 4 (Option.some .boolean) ∈ lw_use := g_use (List.mem_of_getElem? (i := 572) (by decide +kernel)) rfl
theorem d_M_readFarm_0 : decode b_M_readFarm 0 = .ok (.iconst 5, 1) := by decide +kernel
theorem d_M_readFarm_1 : decode b_M_readFarm 1 = .ok (.aload_n 0, 1) := by decide +kernel
theorem d_M_readFarm_2 : decode b_M_readFarm 2 = .ok (.getfield 68, 3) := by decide +kernel
theorem d_M_readFarm_5 : decode b_M_readFarm 5 = .ok (.imul, 1) := by decide +kernel
theorem d_M_readFarm_6 : decode b_M_readFarm 6 = .ok (.istore_n 1, 1) := by decide +kernel
theorem d_M_readFarm_7 : decode b_M_readFarm 7 = .ok (.iconst 0, 1) := by decide +kernel
theorem d_M_readFarm_8 : decode b_M_readFarm 8 = .ok (.istore_n 2, 1) := by decide +kernel
theorem d_M_readFarm_9 : decode b_M_readFarm 9 = .ok (.iload_n 2, 1) := by decide +kernel
theorem d_M_readFarm_10 : decode b_M_readFarm 10 = .ok (.iconst 5, 1) := by decide +kernel
theorem d_M_readFarm_11 : decode b_M_readFarm 11 = .ok (.if_icmp .ge 48, 3) := by decide +kernel
theorem d_M_readFarm_14 : decode b_M_readFarm 14 = .ok (.aload_n 0, 1) := by decide +kernel
theorem d_M_readFarm_15 : decode b_M_readFarm 15 = .ok (.iconst 0, 1) := by decide +kernel
theorem d_M_readFarm_16 : decode b_M_readFarm 16 = .ok (.iload_n 2, 1) := by decide +kernel
theorem d_M_readFarm_17 : decode b_M_readFarm 17 = .ok (.iconst 1, 1) := by decide +kernel
theorem d_M_readFarm_18 : decode b_M_readFarm 18 = .ok (.if_icmp .eq 8, 3) := by decide +kernel
theorem d_M_readFarm_21 : decode b_M_readFarm 21 = .ok (.iload_n 2, 1) := by decide +kernel
theorem d_M_readFarm_22 : decode b_M_readFarm 22 = .ok (.iconst 4, 1) := by decide +kernel
theorem d_M_readFarm_23 : decode b_M_readFarm 23 = .ok (.if_icmp .ne 7, 3) := by decide +kernel
theorem d_M_readFarm_26 : decode b_M_readFarm 26 = .ok (.iconst 3, 1) := by decide +kernel
theorem d_M_readFarm_27 : decode b_M_readFarm 27 = .ok (.goto 5, 3) := by decide +kernel
theorem d_M_readFarm_30 : decode b_M_readFarm 30 = .ok (.bipush 9, 2) := by decide +kernel
theorem d_M_readFarm_32 : decode b_M_readFarm 32 = .ok (.invokevirtual 71, 3) := by decide +kernel
theorem d_M_readFarm_35 : decode b_M_readFarm 35 = .ok (.istore_n 3, 1) := by decide +kernel
theorem d_M_readFarm_36 : decode b_M_readFarm 36 = .ok (.iload_n 3, 1) := by decide +kernel
theorem d_M_readFarm_37 : decode b_M_readFarm 37 = .ok (.bipush (-9), 2) := by decide +kernel
theorem d_M_readFarm_39 : decode b_M_readFarm 39 = .ok (.if_icmp .ne 5, 3) := by decide +kernel
theorem d_M_readFarm_42 : decode b_M_readFarm 42 = .ok (.iconst 0, 1) := by decide +kernel
theorem d_M_readFarm_43 : decode b_M_readFarm 43 = .ok (.ireturn, 1) := by decide +kernel
theorem d_M_readFarm_44 : decode b_M_readFarm 44 = .ok (.aload_n 0, 1) := by decide +kernel
theorem d_M_readFarm_45 : decode b_M_readFarm 45 = .ok (.getfield 22, 3) := by decide +kernel
theorem d_M_readFarm_48 : decode b_M_readFarm 48 = .ok (.iload_n 1, 1) := by decide +kernel
theorem d_M_readFarm_49 : decode b_M_readFarm 49 = .ok (.iload_n 2, 1) := by decide +kernel
theorem d_M_readFarm_50 : decode b_M_readFarm 50 = .ok (.iadd, 1) := by decide +kernel
theorem d_M_readFarm_51 : decode b_M_readFarm 51 = .ok (.iload_n 3, 1) := by decide +kernel
theorem d_M_readFarm_52 : decode b_M_readFarm 52 = .ok (.iastore, 1) := by decide +kernel
theorem d_M_readFarm_53 : decode b_M_readFarm 53 = .ok (.iinc 2 1, 3) := by decide +kernel
theorem d_M_readFarm_56 : decode b_M_readFarm 56 = .ok (.goto (-47), 3) := by decide +kernel
theorem d_M_readFarm_59 : decode b_M_readFarm 59 = .ok (.aload_n 0, 1) := by decide +kernel
theorem d_M_readFarm_60 : decode b_M_readFarm 60 = .ok (.dup, 1) := by decide +kernel
theorem d_M_readFarm_61 : decode b_M_readFarm 61 = .ok (.getfield 68, 3) := by decide +kernel
theorem d_M_readFarm_64 : decode b_M_readFarm 64 = .ok (.iconst 1, 1) := by decide +kernel
theorem d_M_readFarm_65 : decode b_M_readFarm 65 = .ok (.iadd, 1) := by decide +kernel
theorem d_M_readFarm_66 : decode b_M_readFarm 66 = .ok (.putfield 68, 3) := by decide +kernel
theorem d_M_readFarm_69 : decode b_M_readFarm 69 = .ok (.iconst 1, 1) := by decide +kernel
theorem d_M_readFarm_70 : decode b_M_readFarm 70 = .ok (.ireturn, 1) := by decide +kernel
abbrev b_M_readDam : ByteArray := prog_5_method_13_code
def y_M_readDam : MethodName := ⟨R_M, "readDam", "()Z"⟩
theorem mc_M_readDam : Cond.code y_M_readDam b_M_readDam 2 (Option.some .boolean) ∈ lw_use := g_use (List.mem_of_getElem? (i := 584) (by decide +kernel)) rfl
theorem d_M_readDam_0 : decode b_M_readDam 0 = .ok (.aload_n 0, 1) := by decide +kernel
theorem d_M_readDam_1 : decode b_M_readDam 1 = .ok (.getfield 65, 3) := by decide +kernel
theorem d_M_readDam_4 : decode b_M_readDam 4 = .ok (.aload_n 0, 1) := by decide +kernel
theorem d_M_readDam_5 : decode b_M_readDam 5 = .ok (.getfield 62, 3) := by decide +kernel
theorem d_M_readDam_8 : decode b_M_readDam 8 = .ok (.if_icmp .ge 18, 3) := by decide +kernel
theorem d_M_readDam_11 : decode b_M_readDam 11 = .ok (.aload_n 0, 1) := by decide +kernel
theorem d_M_readDam_12 : decode b_M_readDam 12 = .ok (.getfield 7, 3) := by decide +kernel
theorem d_M_readDam_15 : decode b_M_readDam 15 = .ok (.aload_n 0, 1) := by decide +kernel
theorem d_M_readDam_16 : decode b_M_readDam 16 = .ok (.getfield 65, 3) := by decide +kernel
theorem d_M_readDam_19 : decode b_M_readDam 19 = .ok (.iaload, 1) := by decide +kernel
theorem d_M_readDam_20 : decode b_M_readDam 20 = .ok (.bipush 48, 2) := by decide +kernel
theorem d_M_readDam_22 : decode b_M_readDam 22 = .ok (.isub, 1) := by decide +kernel
theorem d_M_readDam_23 : decode b_M_readDam 23 = .ok (.goto 5, 3) := by decide +kernel
theorem d_M_readDam_26 : decode b_M_readDam 26 = .ok (.bipush (-9), 2) := by decide +kernel
theorem d_M_readDam_28 : decode b_M_readDam 28 = .ok (.istore_n 1, 1) := by decide +kernel
theorem d_M_readDam_29 : decode b_M_readDam 29 = .ok (.iload_n 1, 1) := by decide +kernel
theorem d_M_readDam_30 : decode b_M_readDam 30 = .ok (.i2l, 1) := by decide +kernel
theorem d_M_readDam_31 : decode b_M_readDam 31 = .ok (.lconst 0, 1) := by decide +kernel
theorem d_M_readDam_32 : decode b_M_readDam 32 = .ok (.aload_n 0, 1) := by decide +kernel
theorem d_M_readDam_33 : decode b_M_readDam 33 = .ok (.getfield 68, 3) := by decide +kernel
theorem d_M_readDam_36 : decode b_M_readDam 36 = .ok (.iconst 2, 1) := by decide +kernel
theorem d_M_readDam_37 : decode b_M_readDam 37 = .ok (.isub, 1) := by decide +kernel
theorem d_M_readDam_38 : decode b_M_readDam 38 = .ok (.i2l, 1) := by decide +kernel
theorem d_M_readDam_39 : decode b_M_readDam 39 = .ok (.invokestatic 54, 3) := by decide +kernel
theorem d_M_readDam_42 : decode b_M_readDam 42 = .ok (.ifCond .eq 14, 3) := by decide +kernel
theorem d_M_readDam_45 : decode b_M_readDam 45 = .ok (.aload_n 0, 1) := by decide +kernel
theorem d_M_readDam_46 : decode b_M_readDam 46 = .ok (.getfield 75, 3) := by decide +kernel
theorem d_M_readDam_49 : decode b_M_readDam 49 = .ok (.iload_n 1, 1) := by decide +kernel
theorem d_M_readDam_50 : decode b_M_readDam 50 = .ok (.invokestatic 78, 3) := by decide +kernel
theorem d_M_readDam_53 : decode b_M_readDam 53 = .ok (.ifCond .eq 5, 3) := by decide +kernel
theorem d_M_readDam_56 : decode b_M_readDam 56 = .ok (.iconst 0, 1) := by decide +kernel
theorem d_M_readDam_57 : decode b_M_readDam 57 = .ok (.ireturn, 1) := by decide +kernel
theorem d_M_readDam_58 : decode b_M_readDam 58 = .ok (.aload_n 0, 1) := by decide +kernel
theorem d_M_readDam_59 : decode b_M_readDam 59 = .ok (.dup, 1) := by decide +kernel
theorem d_M_readDam_60 : decode b_M_readDam 60 = .ok (.getfield 65, 3) := by decide +kernel
theorem d_M_readDam_63 : decode b_M_readDam 63 = .ok (.iconst 1, 1) := by decide +kernel
theorem d_M_readDam_64 : decode b_M_readDam 64 = .ok (.iadd, 1) := by decide +kernel
theorem d_M_readDam_65 : decode b_M_readDam 65 = .ok (.putfield 65, 3) := by decide +kernel
theorem d_M_readDam_68 : decode b_M_readDam 68 = .ok (.aload_n 0, 1) := by decide +kernel
theorem d_M_readDam_69 : decode b_M_readDam 69 = .ok (.dup, 1) := by decide +kernel
theorem d_M_readDam_70 : decode b_M_readDam 70 = .ok (.getfield 75, 3) := by decide +kernel
theorem d_M_readDam_73 : decode b_M_readDam 73 = .ok (.iconst 1, 1) := by decide +kernel
theorem d_M_readDam_74 : decode b_M_readDam 74 = .ok (.iload_n 1, 1) := by decide +kernel
theorem d_M_readDam_75 : decode b_M_readDam 75 = .ok (.ishl, 1) := by decide +kernel
theorem d_M_readDam_76 : decode b_M_readDam 76 = .ok (.ior, 1) := by decide +kernel
theorem d_M_readDam_77 : decode b_M_readDam 77 = .ok (.putfield 75, 3) := by decide +kernel
theorem d_M_readDam_80 : decode b_M_readDam 80 = .ok (.iconst 1, 1) := by decide +kernel
theorem d_M_readDam_81 : decode b_M_readDam 81 = .ok (.ireturn, 1) := by decide +kernel
abbrev b_M_canDam : ByteArray := prog_5_method_14_code
def y_M_canDam : MethodName := ⟨R_M, "canDam", "()Z"⟩
theorem mc_M_canDam : Cond.code y_M_canDam b_M_canDam 1 (Option.some .boolean) ∈ lw_use := g_use (List.mem_of_getElem? (i := 580) (by decide +kernel)) rfl
theorem d_M_canDam_0 : decode b_M_canDam 0 = .ok (.aload_n 0, 1) := by decide +kernel
theorem d_M_canDam_1 : decode b_M_canDam 1 = .ok (.getfield 68, 3) := by decide +kernel
theorem d_M_canDam_4 : decode b_M_canDam 4 = .ok (.iconst 1, 1) := by decide +kernel
theorem d_M_canDam_5 : decode b_M_canDam 5 = .ok (.if_icmp .le 24, 3) := by decide +kernel
theorem d_M_canDam_8 : decode b_M_canDam 8 = .ok (.aload_n 0, 1) := by decide +kernel
theorem d_M_canDam_9 : decode b_M_canDam 9 = .ok (.getfield 75, 3) := by decide +kernel
theorem d_M_canDam_12 : decode b_M_canDam 12 = .ok (.iconst 1, 1) := by decide +kernel
theorem d_M_canDam_13 : decode b_M_canDam 13 = .ok (.aload_n 0, 1) := by decide +kernel
theorem d_M_canDam_14 : decode b_M_canDam 14 = .ok (.getfield 68, 3) := by decide +kernel
theorem d_M_canDam_17 : decode b_M_canDam 17 = .ok (.iconst 1, 1) := by decide +kernel
theorem d_M_canDam_18 : decode b_M_canDam 18 = .ok (.isub, 1) := by decide +kernel
theorem d_M_canDam_19 : decode b_M_canDam 19 = .ok (.ishl, 1) := by decide +kernel
theorem d_M_canDam_20 : decode b_M_canDam 20 = .ok (.iconst 1, 1) := by decide +kernel
theorem d_M_canDam_21 : decode b_M_canDam 21 = .ok (.isub, 1) := by decide +kernel
theorem d_M_canDam_22 : decode b_M_canDam 22 = .ok (.if_icmp .eq 7, 3) := by decide +kernel
theorem d_M_canDam_25 : decode b_M_canDam 25 = .ok (.iconst 1, 1) := by decide +kernel
theorem d_M_canDam_26 : decode b_M_canDam 26 = .ok (.goto 4, 3) := by decide +kernel
theorem d_M_canDam_29 : decode b_M_canDam 29 = .ok (.iconst 0, 1) := by decide +kernel
theorem d_M_canDam_30 : decode b_M_canDam 30 = .ok (.ireturn, 1) := by decide +kernel
abbrev b_M_readPart : ByteArray := prog_5_method_15_code
def y_M_readPart : MethodName := ⟨R_M, "readPart", "()Z"⟩
theorem mc_M_readPart : Cond.code y_M_readPart b_M_readPart 2 (Option.some .boolean) ∈ lw_use := g_use (List.mem_of_getElem? (i := 568) (by decide +kernel)) rfl
theorem d_M_readPart_0 : decode b_M_readPart 0 = .ok (.aload_n 0, 1) := by decide +kernel
theorem d_M_readPart_1 : decode b_M_readPart 1 = .ok (.getfield 7, 3) := by decide +kernel
theorem d_M_readPart_4 : decode b_M_readPart 4 = .ok (.aload_n 0, 1) := by decide +kernel
theorem d_M_readPart_5 : decode b_M_readPart 5 = .ok (.getfield 65, 3) := by decide +kernel
theorem d_M_readPart_8 : decode b_M_readPart 8 = .ok (.iaload, 1) := by decide +kernel
theorem d_M_readPart_9 : decode b_M_readPart 9 = .ok (.istore_n 1, 1) := by decide +kernel
theorem d_M_readPart_10 : decode b_M_readPart 10 = .ok (.aload_n 0, 1) := by decide +kernel
theorem d_M_readPart_11 : decode b_M_readPart 11 = .ok (.dup, 1) := by decide +kernel
theorem d_M_readPart_12 : decode b_M_readPart 12 = .ok (.getfield 65, 3) := by decide +kernel
theorem d_M_readPart_15 : decode b_M_readPart 15 = .ok (.iconst 1, 1) := by decide +kernel
theorem d_M_readPart_16 : decode b_M_readPart 16 = .ok (.iadd, 1) := by decide +kernel
theorem d_M_readPart_17 : decode b_M_readPart 17 = .ok (.putfield 65, 3) := by decide +kernel
theorem d_M_readPart_20 : decode b_M_readPart 20 = .ok (.iload_n 1, 1) := by decide +kernel
theorem d_M_readPart_21 : decode b_M_readPart 21 = .ok (.bipush 70, 2) := by decide +kernel
theorem d_M_readPart_23 : decode b_M_readPart 23 = .ok (.if_icmp .ne 17, 3) := by decide +kernel
theorem d_M_readPart_26 : decode b_M_readPart 26 = .ok (.aload_n 0, 1) := by decide +kernel
theorem d_M_readPart_27 : decode b_M_readPart 27 = .ok (.getfield 68, 3) := by decide +kernel
theorem d_M_readPart_30 : decode b_M_readPart 30 = .ok (.bipush 6, 2) := by decide +kernel
theorem d_M_readPart_32 : decode b_M_readPart 32 = .ok (.if_icmp .ge 8, 3) := by decide +kernel
theorem d_M_readPart_35 : decode b_M_readPart 35 = .ok (.aload_n 0, 1) := by decide +kernel
theorem d_M_readPart_36 : decode b_M_readPart 36 = .ok (.invokevirtual 82, 3) := by decide +kernel
theorem d_M_readPart_39 : decode b_M_readPart 39 = .ok (.ireturn, 1) := by decide +kernel
theorem d_M_readPart_40 : decode b_M_readPart 40 = .ok (.iload_n 1, 1) := by decide +kernel
theorem d_M_readPart_41 : decode b_M_readPart 41 = .ok (.bipush 73, 2) := by decide +kernel
theorem d_M_readPart_43 : decode b_M_readPart 43 = .ok (.if_icmp .ne 15, 3) := by decide +kernel
theorem d_M_readPart_46 : decode b_M_readPart 46 = .ok (.aload_n 0, 1) := by decide +kernel
theorem d_M_readPart_47 : decode b_M_readPart 47 = .ok (.invokevirtual 85, 3) := by decide +kernel
theorem d_M_readPart_50 : decode b_M_readPart 50 = .ok (.ifCond .eq 8, 3) := by decide +kernel
theorem d_M_readPart_53 : decode b_M_readPart 53 = .ok (.aload_n 0, 1) := by decide +kernel
theorem d_M_readPart_54 : decode b_M_readPart 54 = .ok (.invokevirtual 88, 3) := by decide +kernel
theorem d_M_readPart_57 : decode b_M_readPart 57 = .ok (.ireturn, 1) := by decide +kernel
theorem d_M_readPart_58 : decode b_M_readPart 58 = .ok (.aload_n 0, 1) := by decide +kernel
theorem d_M_readPart_59 : decode b_M_readPart 59 = .ok (.dup, 1) := by decide +kernel
theorem d_M_readPart_60 : decode b_M_readPart 60 = .ok (.getfield 65, 3) := by decide +kernel
theorem d_M_readPart_63 : decode b_M_readPart 63 = .ok (.iconst 1, 1) := by decide +kernel
theorem d_M_readPart_64 : decode b_M_readPart 64 = .ok (.isub, 1) := by decide +kernel
theorem d_M_readPart_65 : decode b_M_readPart 65 = .ok (.putfield 65, 3) := by decide +kernel
theorem d_M_readPart_68 : decode b_M_readPart 68 = .ok (.iconst 0, 1) := by decide +kernel
theorem d_M_readPart_69 : decode b_M_readPart 69 = .ok (.ireturn, 1) := by decide +kernel
abbrev b_M_readDyke : ByteArray := prog_5_method_16_code
def y_M_readDyke : MethodName := ⟨R_M, "readDyke", "()I"⟩
theorem mc_M_readDyke : Cond.code y_M_readDyke b_M_readDyke 1 (Option.some .int) ∈ lw_use := g_use (List.mem_of_getElem? (i := 564) (by decide +kernel)) rfl
theorem d_M_readDyke_0 : decode b_M_readDyke 0 = .ok (.aload_n 0, 1) := by decide +kernel
theorem d_M_readDyke_1 : decode b_M_readDyke 1 = .ok (.iconst 0, 1) := by decide +kernel
theorem d_M_readDyke_2 : decode b_M_readDyke 2 = .ok (.putfield 65, 3) := by decide +kernel
theorem d_M_readDyke_5 : decode b_M_readDyke 5 = .ok (.aload_n 0, 1) := by decide +kernel
theorem d_M_readDyke_6 : decode b_M_readDyke 6 = .ok (.iconst 0, 1) := by decide +kernel
theorem d_M_readDyke_7 : decode b_M_readDyke 7 = .ok (.putfield 68, 3) := by decide +kernel
theorem d_M_readDyke_10 : decode b_M_readDyke 10 = .ok (.aload_n 0, 1) := by decide +kernel
theorem d_M_readDyke_11 : decode b_M_readDyke 11 = .ok (.iconst 0, 1) := by decide +kernel
theorem d_M_readDyke_12 : decode b_M_readDyke 12 = .ok (.putfield 75, 3) := by decide +kernel
theorem d_M_readDyke_15 : decode b_M_readDyke 15 = .ok (.aload_n 0, 1) := by decide +kernel
theorem d_M_readDyke_16 : decode b_M_readDyke 16 = .ok (.getfield 62, 3) := by decide +kernel
theorem d_M_readDyke_19 : decode b_M_readDyke 19 = .ok (.ifCond .eq 14, 3) := by decide +kernel
theorem d_M_readDyke_22 : decode b_M_readDyke 22 = .ok (.aload_n 0, 1) := by decide +kernel
theorem d_M_readDyke_23 : decode b_M_readDyke 23 = .ok (.getfield 7, 3) := by decide +kernel
theorem d_M_readDyke_26 : decode b_M_readDyke 26 = .ok (.iconst 0, 1) := by decide +kernel
theorem d_M_readDyke_27 : decode b_M_readDyke 27 = .ok (.iaload, 1) := by decide +kernel
theorem d_M_readDyke_28 : decode b_M_readDyke 28 = .ok (.bipush 68, 2) := by decide +kernel
theorem d_M_readDyke_30 : decode b_M_readDyke 30 = .ok (.if_icmp .eq 5, 3) := by decide +kernel
theorem d_M_readDyke_33 : decode b_M_readDyke 33 = .ok (.iconst 0, 1) := by decide +kernel
theorem d_M_readDyke_34 : decode b_M_readDyke 34 = .ok (.ireturn, 1) := by decide +kernel
theorem d_M_readDyke_35 : decode b_M_readDyke 35 = .ok (.aload_n 0, 1) := by decide +kernel
theorem d_M_readDyke_36 : decode b_M_readDyke 36 = .ok (.iconst 1, 1) := by decide +kernel
theorem d_M_readDyke_37 : decode b_M_readDyke 37 = .ok (.putfield 65, 3) := by decide +kernel
theorem d_M_readDyke_40 : decode b_M_readDyke 40 = .ok (.aload_n 0, 1) := by decide +kernel
theorem d_M_readDyke_41 : decode b_M_readDyke 41 = .ok (.getfield 65, 3) := by decide +kernel
theorem d_M_readDyke_44 : decode b_M_readDyke 44 = .ok (.aload_n 0, 1) := by decide +kernel
theorem d_M_readDyke_45 : decode b_M_readDyke 45 = .ok (.getfield 62, 3) := by decide +kernel
theorem d_M_readDyke_48 : decode b_M_readDyke 48 = .ok (.if_icmp .ge 15, 3) := by decide +kernel
theorem d_M_readDyke_51 : decode b_M_readDyke 51 = .ok (.aload_n 0, 1) := by decide +kernel
theorem d_M_readDyke_52 : decode b_M_readDyke 52 = .ok (.invokevirtual 91, 3) := by decide +kernel
theorem d_M_readDyke_55 : decode b_M_readDyke 55 = .ok (.ifCond .ne (-15), 3) := by decide +kernel
theorem d_M_readDyke_58 : decode b_M_readDyke 58 = .ok (.aload_n 0, 1) := by decide +kernel
theorem d_M_readDyke_59 : decode b_M_readDyke 59 = .ok (.getfield 65, 3) := by decide +kernel
theorem d_M_readDyke_62 : decode b_M_readDyke 62 = .ok (.ireturn, 1) := by decide +kernel
theorem d_M_readDyke_63 : decode b_M_readDyke 63 = .ok (.bipush (-9), 2) := by decide +kernel
theorem d_M_readDyke_65 : decode b_M_readDyke 65 = .ok (.ireturn, 1) := by decide +kernel
abbrev b_M_fault : ByteArray := prog_5_method_17_code
def y_M_fault : MethodName := ⟨R_M, "fault", "()I"⟩
theorem mc_M_fault : Cond.code y_M_fault b_M_fault 1 (Option.some .int) ∈ lw_use := g_use (List.mem_of_getElem? (i := 560) (by decide +kernel)) rfl
theorem d_M_fault_0 : decode b_M_fault 0 = .ok (.aload_n 0, 1) := by decide +kernel
theorem d_M_fault_1 : decode b_M_fault 1 = .ok (.iconst 0, 1) := by decide +kernel
theorem d_M_fault_2 : decode b_M_fault 2 = .ok (.putfield 47, 3) := by decide +kernel
theorem d_M_fault_5 : decode b_M_fault 5 = .ok (.aload_n 0, 1) := by decide +kernel
theorem d_M_fault_6 : decode b_M_fault 6 = .ok (.invokevirtual 94, 3) := by decide +kernel
theorem d_M_fault_9 : decode b_M_fault 9 = .ok (.ireturn, 1) := by decide +kernel
abbrev b_M_dyke : ByteArray := prog_5_method_18_code
def y_M_dyke : MethodName := ⟨R_M, "dyke", "()I"⟩
theorem mc_M_dyke : Cond.code y_M_dyke b_M_dyke 2 (Option.some .int) ∈ lw_use := g_use (List.mem_of_getElem? (i := 591) (by decide +kernel)) rfl
theorem d_M_dyke_0 : decode b_M_dyke 0 = .ok (.aload_n 0, 1) := by decide +kernel
theorem d_M_dyke_1 : decode b_M_dyke 1 = .ok (.iconst 0, 1) := by decide +kernel
theorem d_M_dyke_2 : decode b_M_dyke 2 = .ok (.putfield 47, 3) := by decide +kernel
theorem d_M_dyke_5 : decode b_M_dyke 5 = .ok (.aload_n 0, 1) := by decide +kernel
theorem d_M_dyke_6 : decode b_M_dyke 6 = .ok (.invokevirtual 94, 3) := by decide +kernel
theorem d_M_dyke_9 : decode b_M_dyke 9 = .ok (.bipush (-9), 2) := by decide +kernel
theorem d_M_dyke_11 : decode b_M_dyke 11 = .ok (.if_icmp .eq 6, 3) := by decide +kernel
theorem d_M_dyke_14 : decode b_M_dyke 14 = .ok (.bipush (-3), 2) := by decide +kernel
theorem d_M_dyke_16 : decode b_M_dyke 16 = .ok (.ireturn, 1) := by decide +kernel
theorem d_M_dyke_17 : decode b_M_dyke 17 = .ok (.aload_n 0, 1) := by decide +kernel
theorem d_M_dyke_18 : decode b_M_dyke 18 = .ok (.aload_n 0, 1) := by decide +kernel
theorem d_M_dyke_19 : decode b_M_dyke 19 = .ok (.getfield 68, 3) := by decide +kernel
theorem d_M_dyke_22 : decode b_M_dyke 22 = .ok (.putfield 51, 3) := by decide +kernel
theorem d_M_dyke_25 : decode b_M_dyke 25 = .ok (.iconst 0, 1) := by decide +kernel
theorem d_M_dyke_26 : decode b_M_dyke 26 = .ok (.istore_n 1, 1) := by decide +kernel
theorem d_M_dyke_27 : decode b_M_dyke 27 = .ok (.iload_n 1, 1) := by decide +kernel
theorem d_M_dyke_28 : decode b_M_dyke 28 = .ok (.bipush 57, 2) := by decide +kernel
theorem d_M_dyke_30 : decode b_M_dyke 30 = .ok (.if_icmp .ge 16, 3) := by decide +kernel
theorem d_M_dyke_33 : decode b_M_dyke 33 = .ok (.aload_n 0, 1) := by decide +kernel
theorem d_M_dyke_34 : decode b_M_dyke 34 = .ok (.getfield 25, 3) := by decide +kernel
theorem d_M_dyke_37 : decode b_M_dyke 37 = .ok (.iload_n 1, 1) := by decide +kernel
theorem d_M_dyke_38 : decode b_M_dyke 38 = .ok (.iconst 0, 1) := by decide +kernel
theorem d_M_dyke_39 : decode b_M_dyke 39 = .ok (.iastore, 1) := by decide +kernel
theorem d_M_dyke_40 : decode b_M_dyke 40 = .ok (.iinc 1 1, 3) := by decide +kernel
theorem d_M_dyke_43 : decode b_M_dyke 43 = .ok (.goto (-16), 3) := by decide +kernel
theorem d_M_dyke_46 : decode b_M_dyke 46 = .ok (.iconst 0, 1) := by decide +kernel
theorem d_M_dyke_47 : decode b_M_dyke 47 = .ok (.istore_n 1, 1) := by decide +kernel
theorem d_M_dyke_48 : decode b_M_dyke 48 = .ok (.iload_n 1, 1) := by decide +kernel
theorem d_M_dyke_49 : decode b_M_dyke 49 = .ok (.aload_n 0, 1) := by decide +kernel
theorem d_M_dyke_50 : decode b_M_dyke 50 = .ok (.getfield 51, 3) := by decide +kernel
theorem d_M_dyke_53 : decode b_M_dyke 53 = .ok (.if_icmp .ge 102, 3) := by decide +kernel
theorem d_M_dyke_56 : decode b_M_dyke 56 = .ok (.aload_n 0, 1) := by decide +kernel
theorem d_M_dyke_57 : decode b_M_dyke 57 = .ok (.getfield 25, 3) := by decide +kernel
theorem d_M_dyke_60 : decode b_M_dyke 60 = .ok (.iconst 0, 1) := by decide +kernel
theorem d_M_dyke_61 : decode b_M_dyke 61 = .ok (.iload_n 1, 1) := by decide +kernel
theorem d_M_dyke_62 : decode b_M_dyke 62 = .ok (.iadd, 1) := by decide +kernel
theorem d_M_dyke_63 : decode b_M_dyke 63 = .ok (.aload_n 0, 1) := by decide +kernel
theorem d_M_dyke_64 : decode b_M_dyke 64 = .ok (.getfield 22, 3) := by decide +kernel
theorem d_M_dyke_67 : decode b_M_dyke 67 = .ok (.iconst 5, 1) := by decide +kernel
theorem d_M_dyke_68 : decode b_M_dyke 68 = .ok (.iload_n 1, 1) := by decide +kernel
theorem d_M_dyke_69 : decode b_M_dyke 69 = .ok (.imul, 1) := by decide +kernel
theorem d_M_dyke_70 : decode b_M_dyke 70 = .ok (.iaload, 1) := by decide +kernel
theorem d_M_dyke_71 : decode b_M_dyke 71 = .ok (.iastore, 1) := by decide +kernel
theorem d_M_dyke_72 : decode b_M_dyke 72 = .ok (.aload_n 0, 1) := by decide +kernel
theorem d_M_dyke_73 : decode b_M_dyke 73 = .ok (.getfield 13, 3) := by decide +kernel
theorem d_M_dyke_76 : decode b_M_dyke 76 = .ok (.iload_n 1, 1) := by decide +kernel
theorem d_M_dyke_77 : decode b_M_dyke 77 = .ok (.aload_n 0, 1) := by decide +kernel
theorem d_M_dyke_78 : decode b_M_dyke 78 = .ok (.getfield 22, 3) := by decide +kernel
theorem d_M_dyke_81 : decode b_M_dyke 81 = .ok (.iconst 5, 1) := by decide +kernel
theorem d_M_dyke_82 : decode b_M_dyke 82 = .ok (.iload_n 1, 1) := by decide +kernel
theorem d_M_dyke_83 : decode b_M_dyke 83 = .ok (.imul, 1) := by decide +kernel
theorem d_M_dyke_84 : decode b_M_dyke 84 = .ok (.iconst 1, 1) := by decide +kernel
theorem d_M_dyke_85 : decode b_M_dyke 85 = .ok (.iadd, 1) := by decide +kernel
theorem d_M_dyke_86 : decode b_M_dyke 86 = .ok (.iaload, 1) := by decide +kernel
theorem d_M_dyke_87 : decode b_M_dyke 87 = .ok (.iastore, 1) := by decide +kernel
theorem d_M_dyke_88 : decode b_M_dyke 88 = .ok (.aload_n 0, 1) := by decide +kernel
theorem d_M_dyke_89 : decode b_M_dyke 89 = .ok (.getfield 25, 3) := by decide +kernel
theorem d_M_dyke_92 : decode b_M_dyke 92 = .ok (.bipush 6, 2) := by decide +kernel
theorem d_M_dyke_94 : decode b_M_dyke 94 = .ok (.iload_n 1, 1) := by decide +kernel
theorem d_M_dyke_95 : decode b_M_dyke 95 = .ok (.iadd, 1) := by decide +kernel
theorem d_M_dyke_96 : decode b_M_dyke 96 = .ok (.aload_n 0, 1) := by decide +kernel
theorem d_M_dyke_97 : decode b_M_dyke 97 = .ok (.getfield 22, 3) := by decide +kernel
theorem d_M_dyke_100 : decode b_M_dyke 100 = .ok (.iconst 5, 1) := by decide +kernel
theorem d_M_dyke_101 : decode b_M_dyke 101 = .ok (.iload_n 1, 1) := by decide +kernel
theorem d_M_dyke_102 : decode b_M_dyke 102 = .ok (.imul, 1) := by decide +kernel
theorem d_M_dyke_103 : decode b_M_dyke 103 = .ok (.iconst 2, 1) := by decide +kernel
theorem d_M_dyke_104 : decode b_M_dyke 104 = .ok (.iadd, 1) := by decide +kernel
theorem d_M_dyke_105 : decode b_M_dyke 105 = .ok (.iaload, 1) := by decide +kernel
theorem d_M_dyke_106 : decode b_M_dyke 106 = .ok (.iastore, 1) := by decide +kernel
theorem d_M_dyke_107 : decode b_M_dyke 107 = .ok (.aload_n 0, 1) := by decide +kernel
theorem d_M_dyke_108 : decode b_M_dyke 108 = .ok (.getfield 16, 3) := by decide +kernel
theorem d_M_dyke_111 : decode b_M_dyke 111 = .ok (.iload_n 1, 1) := by decide +kernel
theorem d_M_dyke_112 : decode b_M_dyke 112 = .ok (.aload_n 0, 1) := by decide +kernel
theorem d_M_dyke_113 : decode b_M_dyke 113 = .ok (.getfield 22, 3) := by decide +kernel
theorem d_M_dyke_116 : decode b_M_dyke 116 = .ok (.iconst 5, 1) := by decide +kernel
theorem d_M_dyke_117 : decode b_M_dyke 117 = .ok (.iload_n 1, 1) := by decide +kernel
theorem d_M_dyke_118 : decode b_M_dyke 118 = .ok (.imul, 1) := by decide +kernel
theorem d_M_dyke_119 : decode b_M_dyke 119 = .ok (.iconst 3, 1) := by decide +kernel
theorem d_M_dyke_120 : decode b_M_dyke 120 = .ok (.iadd, 1) := by decide +kernel
theorem d_M_dyke_121 : decode b_M_dyke 121 = .ok (.iaload, 1) := by decide +kernel
theorem d_M_dyke_122 : decode b_M_dyke 122 = .ok (.iastore, 1) := by decide +kernel
theorem d_M_dyke_123 : decode b_M_dyke 123 = .ok (.aload_n 0, 1) := by decide +kernel
theorem d_M_dyke_124 : decode b_M_dyke 124 = .ok (.getfield 19, 3) := by decide +kernel
theorem d_M_dyke_127 : decode b_M_dyke 127 = .ok (.iload_n 1, 1) := by decide +kernel
theorem d_M_dyke_128 : decode b_M_dyke 128 = .ok (.aload_n 0, 1) := by decide +kernel
theorem d_M_dyke_129 : decode b_M_dyke 129 = .ok (.getfield 22, 3) := by decide +kernel
theorem d_M_dyke_132 : decode b_M_dyke 132 = .ok (.iconst 5, 1) := by decide +kernel
theorem d_M_dyke_133 : decode b_M_dyke 133 = .ok (.iload_n 1, 1) := by decide +kernel
theorem d_M_dyke_134 : decode b_M_dyke 134 = .ok (.imul, 1) := by decide +kernel
theorem d_M_dyke_135 : decode b_M_dyke 135 = .ok (.iconst 4, 1) := by decide +kernel
theorem d_M_dyke_136 : decode b_M_dyke 136 = .ok (.iadd, 1) := by decide +kernel
theorem d_M_dyke_137 : decode b_M_dyke 137 = .ok (.iaload, 1) := by decide +kernel
theorem d_M_dyke_138 : decode b_M_dyke 138 = .ok (.iastore, 1) := by decide +kernel
theorem d_M_dyke_139 : decode b_M_dyke 139 = .ok (.aload_n 0, 1) := by decide +kernel
theorem d_M_dyke_140 : decode b_M_dyke 140 = .ok (.getfield 25, 3) := by decide +kernel
theorem d_M_dyke_143 : decode b_M_dyke 143 = .ok (.bipush 12, 2) := by decide +kernel
theorem d_M_dyke_145 : decode b_M_dyke 145 = .ok (.iload_n 1, 1) := by decide +kernel
theorem d_M_dyke_146 : decode b_M_dyke 146 = .ok (.iadd, 1) := by decide +kernel
theorem d_M_dyke_147 : decode b_M_dyke 147 = .ok (.iload_n 1, 1) := by decide +kernel
theorem d_M_dyke_148 : decode b_M_dyke 148 = .ok (.iastore, 1) := by decide +kernel
theorem d_M_dyke_149 : decode b_M_dyke 149 = .ok (.iinc 1 1, 3) := by decide +kernel
theorem d_M_dyke_152 : decode b_M_dyke 152 = .ok (.goto (-104), 3) := by decide +kernel
theorem d_M_dyke_155 : decode b_M_dyke 155 = .ok (.aload_n 0, 1) := by decide +kernel
theorem d_M_dyke_156 : decode b_M_dyke 156 = .ok (.getfield 25, 3) := by decide +kernel
theorem d_M_dyke_159 : decode b_M_dyke 159 = .ok (.bipush 19, 2) := by decide +kernel
theorem d_M_dyke_161 : decode b_M_dyke 161 = .ok (.aload_n 0, 1) := by decide +kernel
theorem d_M_dyke_162 : decode b_M_dyke 162 = .ok (.getfield 75, 3) := by decide +kernel
theorem d_M_dyke_165 : decode b_M_dyke 165 = .ok (.iastore, 1) := by decide +kernel
theorem d_M_dyke_166 : decode b_M_dyke 166 = .ok (.aload_n 0, 1) := by decide +kernel
theorem d_M_dyke_167 : decode b_M_dyke 167 = .ok (.iconst 0, 1) := by decide +kernel
theorem d_M_dyke_168 : decode b_M_dyke 168 = .ok (.putfield 98, 3) := by decide +kernel
theorem d_M_dyke_171 : decode b_M_dyke 171 = .ok (.aload_n 0, 1) := by decide +kernel
theorem d_M_dyke_172 : decode b_M_dyke 172 = .ok (.getfield 37, 3) := by decide +kernel
theorem d_M_dyke_175 : decode b_M_dyke 175 = .ok (.iconst 0, 1) := by decide +kernel
theorem d_M_dyke_176 : decode b_M_dyke 176 = .ok (.iconst 0, 1) := by decide +kernel
theorem d_M_dyke_177 : decode b_M_dyke 177 = .ok (.bastore, 1) := by decide +kernel
theorem d_M_dyke_178 : decode b_M_dyke 178 = .ok (.aload_n 0, 1) := by decide +kernel
theorem d_M_dyke_179 : decode b_M_dyke 179 = .ok (.getfield 37, 3) := by decide +kernel
theorem d_M_dyke_182 : decode b_M_dyke 182 = .ok (.iconst 1, 1) := by decide +kernel
theorem d_M_dyke_183 : decode b_M_dyke 183 = .ok (.iconst 0, 1) := by decide +kernel
theorem d_M_dyke_184 : decode b_M_dyke 184 = .ok (.bastore, 1) := by decide +kernel
theorem d_M_dyke_185 : decode b_M_dyke 185 = .ok (.aload_n 0, 1) := by decide +kernel
theorem d_M_dyke_186 : decode b_M_dyke 186 = .ok (.getfield 51, 3) := by decide +kernel
theorem d_M_dyke_189 : decode b_M_dyke 189 = .ok (.ireturn, 1) := by decide +kernel
abbrev b_M_strength : ByteArray := prog_5_method_19_code
def y_M_strength : MethodName := ⟨R_M, "strength", "([II)I"⟩
theorem mc_M_strength : Cond.code y_M_strength b_M_strength 4 (Option.some .int) ∈ lw_use := g_use (List.mem_of_getElem? (i := 615) (by decide +kernel)) rfl
theorem d_M_strength_0 : decode b_M_strength 0 = .ok (.aload_n 0, 1) := by decide +kernel
theorem d_M_strength_1 : decode b_M_strength 1 = .ok (.getfield 19, 3) := by decide +kernel
theorem d_M_strength_4 : decode b_M_strength 4 = .ok (.iload_n 2, 1) := by decide +kernel
theorem d_M_strength_5 : decode b_M_strength 5 = .ok (.iaload, 1) := by decide +kernel
theorem d_M_strength_6 : decode b_M_strength 6 = .ok (.iconst 1, 1) := by decide +kernel
theorem d_M_strength_7 : decode b_M_strength 7 = .ok (.if_icmp .ne 7, 3) := by decide +kernel
theorem d_M_strength_10 : decode b_M_strength 10 = .ok (.iconst 0, 1) := by decide +kernel
theorem d_M_strength_11 : decode b_M_strength 11 = .ok (.goto 51, 3) := by decide +kernel
theorem d_M_strength_14 : decode b_M_strength 14 = .ok (.aload_n 0, 1) := by decide +kernel
theorem d_M_strength_15 : decode b_M_strength 15 = .ok (.getfield 19, 3) := by decide +kernel
theorem d_M_strength_18 : decode b_M_strength 18 = .ok (.iload_n 2, 1) := by decide +kernel
theorem d_M_strength_19 : decode b_M_strength 19 = .ok (.iaload, 1) := by decide +kernel
theorem d_M_strength_20 : decode b_M_strength 20 = .ok (.iconst 2, 1) := by decide +kernel
theorem d_M_strength_21 : decode b_M_strength 21 = .ok (.if_icmp .ne 14, 3) := by decide +kernel
theorem d_M_strength_24 : decode b_M_strength 24 = .ok (.iconst 2, 1) := by decide +kernel
theorem d_M_strength_25 : decode b_M_strength 25 = .ok (.aload_n 0, 1) := by decide +kernel
theorem d_M_strength_26 : decode b_M_strength 26 = .ok (.getfield 13, 3) := by decide +kernel
theorem d_M_strength_29 : decode b_M_strength 29 = .ok (.iload_n 2, 1) := by decide +kernel
theorem d_M_strength_30 : decode b_M_strength 30 = .ok (.iaload, 1) := by decide +kernel
theorem d_M_strength_31 : decode b_M_strength 31 = .ok (.imul, 1) := by decide +kernel
theorem d_M_strength_32 : decode b_M_strength 32 = .ok (.goto 30, 3) := by decide +kernel
theorem d_M_strength_35 : decode b_M_strength 35 = .ok (.aload_n 0, 1) := by decide +kernel
theorem d_M_strength_36 : decode b_M_strength 36 = .ok (.getfield 19, 3) := by decide +kernel
theorem d_M_strength_39 : decode b_M_strength 39 = .ok (.iload_n 2, 1) := by decide +kernel
theorem d_M_strength_40 : decode b_M_strength 40 = .ok (.iaload, 1) := by decide +kernel
theorem d_M_strength_41 : decode b_M_strength 41 = .ok (.iconst 3, 1) := by decide +kernel
theorem d_M_strength_42 : decode b_M_strength 42 = .ok (.if_icmp .ne 14, 3) := by decide +kernel
theorem d_M_strength_45 : decode b_M_strength 45 = .ok (.aload_n 0, 1) := by decide +kernel
theorem d_M_strength_46 : decode b_M_strength 46 = .ok (.getfield 13, 3) := by decide +kernel
theorem d_M_strength_49 : decode b_M_strength 49 = .ok (.iload_n 2, 1) := by decide +kernel
theorem d_M_strength_50 : decode b_M_strength 50 = .ok (.iaload, 1) := by decide +kernel
theorem d_M_strength_51 : decode b_M_strength 51 = .ok (.iconst 2, 1) := by decide +kernel
theorem d_M_strength_52 : decode b_M_strength 52 = .ok (.iadd, 1) := by decide +kernel
theorem d_M_strength_53 : decode b_M_strength 53 = .ok (.goto 9, 3) := by decide +kernel
theorem d_M_strength_56 : decode b_M_strength 56 = .ok (.aload_n 0, 1) := by decide +kernel
theorem d_M_strength_57 : decode b_M_strength 57 = .ok (.getfield 13, 3) := by decide +kernel
theorem d_M_strength_60 : decode b_M_strength 60 = .ok (.iload_n 2, 1) := by decide +kernel
theorem d_M_strength_61 : decode b_M_strength 61 = .ok (.iaload, 1) := by decide +kernel
theorem d_M_strength_62 : decode b_M_strength 62 = .ok (.istore_n 3, 1) := by decide +kernel
theorem d_M_strength_63 : decode b_M_strength 63 = .ok (.aload_n 1, 1) := by decide +kernel
theorem d_M_strength_64 : decode b_M_strength 64 = .ok (.iconst 0, 1) := by decide +kernel
theorem d_M_strength_65 : decode b_M_strength 65 = .ok (.iload_n 2, 1) := by decide +kernel
theorem d_M_strength_66 : decode b_M_strength 66 = .ok (.iadd, 1) := by decide +kernel
theorem d_M_strength_67 : decode b_M_strength 67 = .ok (.iaload, 1) := by decide +kernel
theorem d_M_strength_68 : decode b_M_strength 68 = .ok (.iload_n 3, 1) := by decide +kernel
theorem d_M_strength_69 : decode b_M_strength 69 = .ok (.iadd, 1) := by decide +kernel
theorem d_M_strength_70 : decode b_M_strength 70 = .ok (.ireturn, 1) := by decide +kernel
abbrev b_M_breaksBy : ByteArray := prog_5_method_20_code
def y_M_breaksBy : MethodName := ⟨R_M, "breaksBy", "([II)I"⟩
theorem mc_M_breaksBy : Cond.code y_M_breaksBy b_M_breaksBy 5 (Option.some .int) ∈ lw_use := g_use (List.mem_of_getElem? (i := 639) (by decide +kernel)) rfl
theorem d_M_breaksBy_0 : decode b_M_breaksBy 0 = .ok (.iconst 0, 1) := by decide +kernel
theorem d_M_breaksBy_1 : decode b_M_breaksBy 1 = .ok (.istore_n 3, 1) := by decide +kernel
theorem d_M_breaksBy_2 : decode b_M_breaksBy 2 = .ok (.iconst 0, 1) := by decide +kernel
theorem d_M_breaksBy_3 : decode b_M_breaksBy 3 = .ok (.istore 4, 2) := by decide +kernel
theorem d_M_breaksBy_5 : decode b_M_breaksBy 5 = .ok (.iload 4, 2) := by decide +kernel
theorem d_M_breaksBy_7 : decode b_M_breaksBy 7 = .ok (.aload_n 0, 1) := by decide +kernel
theorem d_M_breaksBy_8 : decode b_M_breaksBy 8 = .ok (.getfield 51, 3) := by decide +kernel
theorem d_M_breaksBy_11 : decode b_M_breaksBy 11 = .ok (.if_icmp .ge 31, 3) := by decide +kernel
theorem d_M_breaksBy_14 : decode b_M_breaksBy 14 = .ok (.iload_n 3, 1) := by decide +kernel
theorem d_M_breaksBy_15 : decode b_M_breaksBy 15 = .ok (.iload_n 2, 1) := by decide +kernel
theorem d_M_breaksBy_16 : decode b_M_breaksBy 16 = .ok (.aload_n 0, 1) := by decide +kernel
theorem d_M_breaksBy_17 : decode b_M_breaksBy 17 = .ok (.aload_n 1, 1) := by decide +kernel
theorem d_M_breaksBy_18 : decode b_M_breaksBy 18 = .ok (.iload 4, 2) := by decide +kernel
theorem d_M_breaksBy_20 : decode b_M_breaksBy 20 = .ok (.invokevirtual 101, 3) := by decide +kernel
theorem d_M_breaksBy_23 : decode b_M_breaksBy 23 = .ok (.if_icmp .le 10, 3) := by decide +kernel
theorem d_M_breaksBy_26 : decode b_M_breaksBy 26 = .ok (.iconst 1, 1) := by decide +kernel
theorem d_M_breaksBy_27 : decode b_M_breaksBy 27 = .ok (.iload 4, 2) := by decide +kernel
theorem d_M_breaksBy_29 : decode b_M_breaksBy 29 = .ok (.ishl, 1) := by decide +kernel
theorem d_M_breaksBy_30 : decode b_M_breaksBy 30 = .ok (.goto 4, 3) := by decide +kernel
theorem d_M_breaksBy_33 : decode b_M_breaksBy 33 = .ok (.iconst 0, 1) := by decide +kernel
theorem d_M_breaksBy_34 : decode b_M_breaksBy 34 = .ok (.ior, 1) := by decide +kernel
theorem d_M_breaksBy_35 : decode b_M_breaksBy 35 = .ok (.istore_n 3, 1) := by decide +kernel
theorem d_M_breaksBy_36 : decode b_M_breaksBy 36 = .ok (.iinc 4 1, 3) := by decide +kernel
theorem d_M_breaksBy_39 : decode b_M_breaksBy 39 = .ok (.goto (-34), 3) := by decide +kernel
theorem d_M_breaksBy_42 : decode b_M_breaksBy 42 = .ok (.iload_n 3, 1) := by decide +kernel
theorem d_M_breaksBy_43 : decode b_M_breaksBy 43 = .ok (.ireturn, 1) := by decide +kernel
abbrev b_M_drownsBy : ByteArray := prog_5_method_21_code
def y_M_drownsBy : MethodName := ⟨R_M, "drownsBy", "([II)I"⟩
theorem mc_M_drownsBy : Cond.code y_M_drownsBy b_M_drownsBy 5 (Option.some .int) ∈ lw_use := g_use (List.mem_of_getElem? (i := 643) (by decide +kernel)) rfl
theorem d_M_drownsBy_0 : decode b_M_drownsBy 0 = .ok (.iload_n 2, 1) := by decide +kernel
theorem d_M_drownsBy_1 : decode b_M_drownsBy 1 = .ok (.istore_n 3, 1) := by decide +kernel
theorem d_M_drownsBy_2 : decode b_M_drownsBy 2 = .ok (.iconst 1, 1) := by decide +kernel
theorem d_M_drownsBy_3 : decode b_M_drownsBy 3 = .ok (.istore 4, 2) := by decide +kernel
theorem d_M_drownsBy_5 : decode b_M_drownsBy 5 = .ok (.iload 4, 2) := by decide +kernel
theorem d_M_drownsBy_7 : decode b_M_drownsBy 7 = .ok (.aload_n 0, 1) := by decide +kernel
theorem d_M_drownsBy_8 : decode b_M_drownsBy 8 = .ok (.getfield 51, 3) := by decide +kernel
theorem d_M_drownsBy_11 : decode b_M_drownsBy 11 = .ok (.if_icmp .ge 45, 3) := by decide +kernel
theorem d_M_drownsBy_14 : decode b_M_drownsBy 14 = .ok (.iload_n 3, 1) := by decide +kernel
theorem d_M_drownsBy_15 : decode b_M_drownsBy 15 = .ok (.iload_n 3, 1) := by decide +kernel
theorem d_M_drownsBy_16 : decode b_M_drownsBy 16 = .ok (.iload 4, 2) := by decide +kernel
theorem d_M_drownsBy_18 : decode b_M_drownsBy 18 = .ok (.iconst 1, 1) := by decide +kernel
theorem d_M_drownsBy_19 : decode b_M_drownsBy 19 = .ok (.isub, 1) := by decide +kernel
theorem d_M_drownsBy_20 : decode b_M_drownsBy 20 = .ok (.invokestatic 78, 3) := by decide +kernel
theorem d_M_drownsBy_23 : decode b_M_drownsBy 23 = .ok (.ifCond .eq 24, 3) := by decide +kernel
theorem d_M_drownsBy_26 : decode b_M_drownsBy 26 = .ok (.aload_n 1, 1) := by decide +kernel
theorem d_M_drownsBy_27 : decode b_M_drownsBy 27 = .ok (.bipush 19, 2) := by decide +kernel
theorem d_M_drownsBy_29 : decode b_M_drownsBy 29 = .ok (.iaload, 1) := by decide +kernel
theorem d_M_drownsBy_30 : decode b_M_drownsBy 30 = .ok (.iload 4, 2) := by decide +kernel
theorem d_M_drownsBy_32 : decode b_M_drownsBy 32 = .ok (.iconst 1, 1) := by decide +kernel
theorem d_M_drownsBy_33 : decode b_M_drownsBy 33 = .ok (.isub, 1) := by decide +kernel
theorem d_M_drownsBy_34 : decode b_M_drownsBy 34 = .ok (.invokestatic 78, 3) := by decide +kernel
theorem d_M_drownsBy_37 : decode b_M_drownsBy 37 = .ok (.ifCond .ne 10, 3) := by decide +kernel
theorem d_M_drownsBy_40 : decode b_M_drownsBy 40 = .ok (.iconst 1, 1) := by decide +kernel
theorem d_M_drownsBy_41 : decode b_M_drownsBy 41 = .ok (.iload 4, 2) := by decide +kernel
theorem d_M_drownsBy_43 : decode b_M_drownsBy 43 = .ok (.ishl, 1) := by decide +kernel
theorem d_M_drownsBy_44 : decode b_M_drownsBy 44 = .ok (.goto 4, 3) := by decide +kernel
theorem d_M_drownsBy_47 : decode b_M_drownsBy 47 = .ok (.iconst 0, 1) := by decide +kernel
theorem d_M_drownsBy_48 : decode b_M_drownsBy 48 = .ok (.ior, 1) := by decide +kernel
theorem d_M_drownsBy_49 : decode b_M_drownsBy 49 = .ok (.istore_n 3, 1) := by decide +kernel
theorem d_M_drownsBy_50 : decode b_M_drownsBy 50 = .ok (.iinc 4 1, 3) := by decide +kernel
theorem d_M_drownsBy_53 : decode b_M_drownsBy 53 = .ok (.goto (-48), 3) := by decide +kernel
theorem d_M_drownsBy_56 : decode b_M_drownsBy 56 = .ok (.aload_n 0, 1) := by decide +kernel
theorem d_M_drownsBy_57 : decode b_M_drownsBy 57 = .ok (.getfield 51, 3) := by decide +kernel
theorem d_M_drownsBy_60 : decode b_M_drownsBy 60 = .ok (.iconst 2, 1) := by decide +kernel
theorem d_M_drownsBy_61 : decode b_M_drownsBy 61 = .ok (.isub, 1) := by decide +kernel
theorem d_M_drownsBy_62 : decode b_M_drownsBy 62 = .ok (.istore 4, 2) := by decide +kernel
theorem d_M_drownsBy_64 : decode b_M_drownsBy 64 = .ok (.iload 4, 2) := by decide +kernel
theorem d_M_drownsBy_66 : decode b_M_drownsBy 66 = .ok (.ifCond .lt 43, 3) := by decide +kernel
theorem d_M_drownsBy_69 : decode b_M_drownsBy 69 = .ok (.iload_n 3, 1) := by decide +kernel
theorem d_M_drownsBy_70 : decode b_M_drownsBy 70 = .ok (.iload_n 3, 1) := by decide +kernel
theorem d_M_drownsBy_71 : decode b_M_drownsBy 71 = .ok (.iload 4, 2) := by decide +kernel
theorem d_M_drownsBy_73 : decode b_M_drownsBy 73 = .ok (.iconst 1, 1) := by decide +kernel
theorem d_M_drownsBy_74 : decode b_M_drownsBy 74 = .ok (.iadd, 1) := by decide +kernel
theorem d_M_drownsBy_75 : decode b_M_drownsBy 75 = .ok (.invokestatic 78, 3) := by decide +kernel
theorem d_M_drownsBy_78 : decode b_M_drownsBy 78 = .ok (.ifCond .eq 22, 3) := by decide +kernel
theorem d_M_drownsBy_81 : decode b_M_drownsBy 81 = .ok (.aload_n 1, 1) := by decide +kernel
theorem d_M_drownsBy_82 : decode b_M_drownsBy 82 = .ok (.bipush 19, 2) := by decide +kernel
theorem d_M_drownsBy_84 : decode b_M_drownsBy 84 = .ok (.iaload, 1) := by decide +kernel
theorem d_M_drownsBy_85 : decode b_M_drownsBy 85 = .ok (.iload 4, 2) := by decide +kernel
theorem d_M_drownsBy_87 : decode b_M_drownsBy 87 = .ok (.invokestatic 78, 3) := by decide +kernel
theorem d_M_drownsBy_90 : decode b_M_drownsBy 90 = .ok (.ifCond .ne 10, 3) := by decide +kernel
theorem d_M_drownsBy_93 : decode b_M_drownsBy 93 = .ok (.iconst 1, 1) := by decide +kernel
theorem d_M_drownsBy_94 : decode b_M_drownsBy 94 = .ok (.iload 4, 2) := by decide +kernel
theorem d_M_drownsBy_96 : decode b_M_drownsBy 96 = .ok (.ishl, 1) := by decide +kernel
theorem d_M_drownsBy_97 : decode b_M_drownsBy 97 = .ok (.goto 4, 3) := by decide +kernel
theorem d_M_drownsBy_100 : decode b_M_drownsBy 100 = .ok (.iconst 0, 1) := by decide +kernel
theorem d_M_drownsBy_101 : decode b_M_drownsBy 101 = .ok (.ior, 1) := by decide +kernel
theorem d_M_drownsBy_102 : decode b_M_drownsBy 102 = .ok (.istore_n 3, 1) := by decide +kernel
theorem d_M_drownsBy_103 : decode b_M_drownsBy 103 = .ok (.iinc 4 (-1), 3) := by decide +kernel
theorem d_M_drownsBy_106 : decode b_M_drownsBy 106 = .ok (.goto (-42), 3) := by decide +kernel
theorem d_M_drownsBy_109 : decode b_M_drownsBy 109 = .ok (.iload_n 3, 1) := by decide +kernel
theorem d_M_drownsBy_110 : decode b_M_drownsBy 110 = .ok (.ireturn, 1) := by decide +kernel
abbrev b_M_worthOf : ByteArray := prog_5_method_22_code
def y_M_worthOf : MethodName := ⟨R_M, "worthOf", "(I)I"⟩
theorem mc_M_worthOf : Cond.code y_M_worthOf b_M_worthOf 4 (Option.some .int) ∈ lw_use := g_use (List.mem_of_getElem? (i := 647) (by decide +kernel)) rfl
theorem d_M_worthOf_0 : decode b_M_worthOf 0 = .ok (.iconst 0, 1) := by decide +kernel
theorem d_M_worthOf_1 : decode b_M_worthOf 1 = .ok (.istore_n 2, 1) := by decide +kernel
theorem d_M_worthOf_2 : decode b_M_worthOf 2 = .ok (.iconst 0, 1) := by decide +kernel
theorem d_M_worthOf_3 : decode b_M_worthOf 3 = .ok (.istore_n 3, 1) := by decide +kernel
theorem d_M_worthOf_4 : decode b_M_worthOf 4 = .ok (.iload_n 3, 1) := by decide +kernel
theorem d_M_worthOf_5 : decode b_M_worthOf 5 = .ok (.aload_n 0, 1) := by decide +kernel
theorem d_M_worthOf_6 : decode b_M_worthOf 6 = .ok (.getfield 51, 3) := by decide +kernel
theorem d_M_worthOf_9 : decode b_M_worthOf 9 = .ok (.if_icmp .ge 30, 3) := by decide +kernel
theorem d_M_worthOf_12 : decode b_M_worthOf 12 = .ok (.iload_n 2, 1) := by decide +kernel
theorem d_M_worthOf_13 : decode b_M_worthOf 13 = .ok (.iload_n 1, 1) := by decide +kernel
theorem d_M_worthOf_14 : decode b_M_worthOf 14 = .ok (.iload_n 3, 1) := by decide +kernel
theorem d_M_worthOf_15 : decode b_M_worthOf 15 = .ok (.invokestatic 78, 3) := by decide +kernel
theorem d_M_worthOf_18 : decode b_M_worthOf 18 = .ok (.ifCond .eq 12, 3) := by decide +kernel
theorem d_M_worthOf_21 : decode b_M_worthOf 21 = .ok (.aload_n 0, 1) := by decide +kernel
theorem d_M_worthOf_22 : decode b_M_worthOf 22 = .ok (.getfield 16, 3) := by decide +kernel
theorem d_M_worthOf_25 : decode b_M_worthOf 25 = .ok (.iload_n 3, 1) := by decide +kernel
theorem d_M_worthOf_26 : decode b_M_worthOf 26 = .ok (.iaload, 1) := by decide +kernel
theorem d_M_worthOf_27 : decode b_M_worthOf 27 = .ok (.goto 4, 3) := by decide +kernel
theorem d_M_worthOf_30 : decode b_M_worthOf 30 = .ok (.iconst 0, 1) := by decide +kernel
theorem d_M_worthOf_31 : decode b_M_worthOf 31 = .ok (.iadd, 1) := by decide +kernel
theorem d_M_worthOf_32 : decode b_M_worthOf 32 = .ok (.istore_n 2, 1) := by decide +kernel
theorem d_M_worthOf_33 : decode b_M_worthOf 33 = .ok (.iinc 3 1, 3) := by decide +kernel
theorem d_M_worthOf_36 : decode b_M_worthOf 36 = .ok (.goto (-32), 3) := by decide +kernel
theorem d_M_worthOf_39 : decode b_M_worthOf 39 = .ok (.iload_n 2, 1) := by decide +kernel
theorem d_M_worthOf_40 : decode b_M_worthOf 40 = .ok (.ireturn, 1) := by decide +kernel
abbrev b_M_goStorm : ByteArray := prog_5_method_23_code
def y_M_goStorm : MethodName := ⟨R_M, "goStorm", "([II)I"⟩
theorem mc_M_goStorm : Cond.code y_M_goStorm b_M_goStorm 5 (Option.some .int) ∈ lw_use := g_use (List.mem_of_getElem? (i := 635) (by decide +kernel)) rfl
theorem d_M_goStorm_0 : decode b_M_goStorm 0 = .ok (.aload_n 0, 1) := by decide +kernel
theorem d_M_goStorm_1 : decode b_M_goStorm 1 = .ok (.aload_n 1, 1) := by decide +kernel
theorem d_M_goStorm_2 : decode b_M_goStorm 2 = .ok (.iload_n 2, 1) := by decide +kernel
theorem d_M_goStorm_3 : decode b_M_goStorm 3 = .ok (.invokevirtual 105, 3) := by decide +kernel
theorem d_M_goStorm_6 : decode b_M_goStorm 6 = .ok (.istore_n 3, 1) := by decide +kernel
theorem d_M_goStorm_7 : decode b_M_goStorm 7 = .ok (.iconst 0, 1) := by decide +kernel
theorem d_M_goStorm_8 : decode b_M_goStorm 8 = .ok (.istore 4, 2) := by decide +kernel
theorem d_M_goStorm_10 : decode b_M_goStorm 10 = .ok (.iload 4, 2) := by decide +kernel
theorem d_M_goStorm_12 : decode b_M_goStorm 12 = .ok (.aload_n 0, 1) := by decide +kernel
theorem d_M_goStorm_13 : decode b_M_goStorm 13 = .ok (.getfield 51, 3) := by decide +kernel
theorem d_M_goStorm_16 : decode b_M_goStorm 16 = .ok (.if_icmp .ge 58, 3) := by decide +kernel
theorem d_M_goStorm_19 : decode b_M_goStorm 19 = .ok (.iload_n 3, 1) := by decide +kernel
theorem d_M_goStorm_20 : decode b_M_goStorm 20 = .ok (.iload 4, 2) := by decide +kernel
theorem d_M_goStorm_22 : decode b_M_goStorm 22 = .ok (.invokestatic 78, 3) := by decide +kernel
theorem d_M_goStorm_25 : decode b_M_goStorm 25 = .ok (.ifCond .eq 13, 3) := by decide +kernel
theorem d_M_goStorm_28 : decode b_M_goStorm 28 = .ok (.aload_n 1, 1) := by decide +kernel
theorem d_M_goStorm_29 : decode b_M_goStorm 29 = .ok (.iconst 0, 1) := by decide +kernel
theorem d_M_goStorm_30 : decode b_M_goStorm 30 = .ok (.iload 4, 2) := by decide +kernel
theorem d_M_goStorm_32 : decode b_M_goStorm 32 = .ok (.iadd, 1) := by decide +kernel
theorem d_M_goStorm_33 : decode b_M_goStorm 33 = .ok (.iconst 0, 1) := by decide +kernel
theorem d_M_goStorm_34 : decode b_M_goStorm 34 = .ok (.iastore, 1) := by decide +kernel
theorem d_M_goStorm_35 : decode b_M_goStorm 35 = .ok (.goto 33, 3) := by decide +kernel
theorem d_M_goStorm_38 : decode b_M_goStorm 38 = .ok (.aload_n 0, 1) := by decide +kernel
theorem d_M_goStorm_39 : decode b_M_goStorm 39 = .ok (.aload_n 1, 1) := by decide +kernel
theorem d_M_goStorm_40 : decode b_M_goStorm 40 = .ok (.iload 4, 2) := by decide +kernel
theorem d_M_goStorm_42 : decode b_M_goStorm 42 = .ok (.invokevirtual 101, 3) := by decide +kernel
theorem d_M_goStorm_45 : decode b_M_goStorm 45 = .ok (.iload_n 2, 1) := by decide +kernel
theorem d_M_goStorm_46 : decode b_M_goStorm 46 = .ok (.if_icmp .ne 22, 3) := by decide +kernel
theorem d_M_goStorm_49 : decode b_M_goStorm 49 = .ok (.aload_n 1, 1) := by decide +kernel
theorem d_M_goStorm_50 : decode b_M_goStorm 50 = .ok (.iconst 0, 1) := by decide +kernel
theorem d_M_goStorm_51 : decode b_M_goStorm 51 = .ok (.iload 4, 2) := by decide +kernel
theorem d_M_goStorm_53 : decode b_M_goStorm 53 = .ok (.iadd, 1) := by decide +kernel
theorem d_M_goStorm_54 : decode b_M_goStorm 54 = .ok (.iaload, 1) := by decide +kernel
theorem d_M_goStorm_55 : decode b_M_goStorm 55 = .ok (.ifCond .le 13, 3) := by decide +kernel
theorem d_M_goStorm_58 : decode b_M_goStorm 58 = .ok (.aload_n 1, 1) := by decide +kernel
theorem d_M_goStorm_59 : decode b_M_goStorm 59 = .ok (.iconst 0, 1) := by decide +kernel
theorem d_M_goStorm_60 : decode b_M_goStorm 60 = .ok (.iload 4, 2) := by decide +kernel
theorem d_M_goStorm_62 : decode b_M_goStorm 62 = .ok (.iadd, 1) := by decide +kernel
theorem d_M_goStorm_63 : decode b_M_goStorm 63 = .ok (.dup2, 1) := by decide +kernel
theorem d_M_goStorm_64 : decode b_M_goStorm 64 = .ok (.iaload, 1) := by decide +kernel
theorem d_M_goStorm_65 : decode b_M_goStorm 65 = .ok (.iconst 1, 1) := by decide +kernel
theorem d_M_goStorm_66 : decode b_M_goStorm 66 = .ok (.isub, 1) := by decide +kernel
theorem d_M_goStorm_67 : decode b_M_goStorm 67 = .ok (.iastore, 1) := by decide +kernel
theorem d_M_goStorm_68 : decode b_M_goStorm 68 = .ok (.iinc 4 1, 3) := by decide +kernel
theorem d_M_goStorm_71 : decode b_M_goStorm 71 = .ok (.goto (-61), 3) := by decide +kernel
theorem d_M_goStorm_74 : decode b_M_goStorm 74 = .ok (.aload_n 1, 1) := by decide +kernel
theorem d_M_goStorm_75 : decode b_M_goStorm 75 = .ok (.bipush 18, 2) := by decide +kernel
theorem d_M_goStorm_77 : decode b_M_goStorm 77 = .ok (.dup2, 1) := by decide +kernel
theorem d_M_goStorm_78 : decode b_M_goStorm 78 = .ok (.iaload, 1) := by decide +kernel
theorem d_M_goStorm_79 : decode b_M_goStorm 79 = .ok (.iload_n 3, 1) := by decide +kernel
theorem d_M_goStorm_80 : decode b_M_goStorm 80 = .ok (.ior, 1) := by decide +kernel
theorem d_M_goStorm_81 : decode b_M_goStorm 81 = .ok (.iastore, 1) := by decide +kernel
theorem d_M_goStorm_82 : decode b_M_goStorm 82 = .ok (.aload_n 1, 1) := by decide +kernel
theorem d_M_goStorm_83 : decode b_M_goStorm 83 = .ok (.bipush 20, 2) := by decide +kernel
theorem d_M_goStorm_85 : decode b_M_goStorm 85 = .ok (.dup2, 1) := by decide +kernel
theorem d_M_goStorm_86 : decode b_M_goStorm 86 = .ok (.iaload, 1) := by decide +kernel
theorem d_M_goStorm_87 : decode b_M_goStorm 87 = .ok (.iconst 1, 1) := by decide +kernel
theorem d_M_goStorm_88 : decode b_M_goStorm 88 = .ok (.iadd, 1) := by decide +kernel
theorem d_M_goStorm_89 : decode b_M_goStorm 89 = .ok (.iastore, 1) := by decide +kernel
theorem d_M_goStorm_90 : decode b_M_goStorm 90 = .ok (.iload_n 3, 1) := by decide +kernel
theorem d_M_goStorm_91 : decode b_M_goStorm 91 = .ok (.ireturn, 1) := by decide +kernel
abbrev b_M_about : ByteArray := prog_5_method_24_code
def y_M_about : MethodName := ⟨R_M, "about", "(I)I"⟩
theorem mc_M_about : Cond.code y_M_about b_M_about 2 (Option.some .int) ∈ lw_use := g_use (List.mem_of_getElem? (i := 595) (by decide +kernel)) rfl
theorem d_M_about_0 : decode b_M_about 0 = .ok (.aload_n 0, 1) := by decide +kernel
theorem d_M_about_1 : decode b_M_about 1 = .ok (.iconst 0, 1) := by decide +kernel
theorem d_M_about_2 : decode b_M_about 2 = .ok (.putfield 47, 3) := by decide +kernel
theorem d_M_about_5 : decode b_M_about 5 = .ok (.iload_n 1, 1) := by decide +kernel
theorem d_M_about_6 : decode b_M_about 6 = .ok (.tableswitch 90 0 6 #[42, 47, 55, 63, 71, 80, 85], 42) := by decide +kernel
theorem d_M_about_48 : decode b_M_about 48 = .ok (.aload_n 0, 1) := by decide +kernel
theorem d_M_about_49 : decode b_M_about 49 = .ok (.getfield 51, 3) := by decide +kernel
theorem d_M_about_52 : decode b_M_about 52 = .ok (.ireturn, 1) := by decide +kernel
theorem d_M_about_53 : decode b_M_about 53 = .ok (.aload_n 0, 1) := by decide +kernel
theorem d_M_about_54 : decode b_M_about 54 = .ok (.getfield 25, 3) := by decide +kernel
theorem d_M_about_57 : decode b_M_about 57 = .ok (.bipush 19, 2) := by decide +kernel
theorem d_M_about_59 : decode b_M_about 59 = .ok (.iaload, 1) := by decide +kernel
theorem d_M_about_60 : decode b_M_about 60 = .ok (.ireturn, 1) := by decide +kernel
theorem d_M_about_61 : decode b_M_about 61 = .ok (.aload_n 0, 1) := by decide +kernel
theorem d_M_about_62 : decode b_M_about 62 = .ok (.getfield 25, 3) := by decide +kernel
theorem d_M_about_65 : decode b_M_about 65 = .ok (.bipush 18, 2) := by decide +kernel
theorem d_M_about_67 : decode b_M_about 67 = .ok (.iaload, 1) := by decide +kernel
theorem d_M_about_68 : decode b_M_about 68 = .ok (.ireturn, 1) := by decide +kernel
theorem d_M_about_69 : decode b_M_about 69 = .ok (.aload_n 0, 1) := by decide +kernel
theorem d_M_about_70 : decode b_M_about 70 = .ok (.getfield 25, 3) := by decide +kernel
theorem d_M_about_73 : decode b_M_about 73 = .ok (.bipush 20, 2) := by decide +kernel
theorem d_M_about_75 : decode b_M_about 75 = .ok (.iaload, 1) := by decide +kernel
theorem d_M_about_76 : decode b_M_about 76 = .ok (.ireturn, 1) := by decide +kernel
theorem d_M_about_77 : decode b_M_about 77 = .ok (.aload_n 0, 1) := by decide +kernel
theorem d_M_about_78 : decode b_M_about 78 = .ok (.aload_n 0, 1) := by decide +kernel
theorem d_M_about_79 : decode b_M_about 79 = .ok (.invokevirtual 108, 3) := by decide +kernel
theorem d_M_about_82 : decode b_M_about 82 = .ok (.invokevirtual 111, 3) := by decide +kernel
theorem d_M_about_85 : decode b_M_about 85 = .ok (.ireturn, 1) := by decide +kernel
theorem d_M_about_86 : decode b_M_about 86 = .ok (.aload_n 0, 1) := by decide +kernel
theorem d_M_about_87 : decode b_M_about 87 = .ok (.getfield 98, 3) := by decide +kernel
theorem d_M_about_90 : decode b_M_about 90 = .ok (.ireturn, 1) := by decide +kernel
theorem d_M_about_91 : decode b_M_about 91 = .ok (.aload_n 0, 1) := by decide +kernel
theorem d_M_about_92 : decode b_M_about 92 = .ok (.getfield 62, 3) := by decide +kernel
theorem d_M_about_95 : decode b_M_about 95 = .ok (.ireturn, 1) := by decide +kernel
theorem d_M_about_96 : decode b_M_about 96 = .ok (.bipush (-2), 2) := by decide +kernel
theorem d_M_about_98 : decode b_M_about 98 = .ok (.ireturn, 1) := by decide +kernel
abbrev b_M_clayOf : ByteArray := prog_5_method_25_code
def y_M_clayOf : MethodName := ⟨R_M, "clayOf", "(I)I"⟩
theorem mc_M_clayOf : Cond.code y_M_clayOf b_M_clayOf 4 (Option.some .int) ∈ lw_use := g_use (List.mem_of_getElem? (i := 603) (by decide +kernel)) rfl
theorem d_M_clayOf_0 : decode b_M_clayOf 0 = .ok (.iconst 0, 1) := by decide +kernel
theorem d_M_clayOf_1 : decode b_M_clayOf 1 = .ok (.istore_n 2, 1) := by decide +kernel
theorem d_M_clayOf_2 : decode b_M_clayOf 2 = .ok (.iconst 0, 1) := by decide +kernel
theorem d_M_clayOf_3 : decode b_M_clayOf 3 = .ok (.istore_n 3, 1) := by decide +kernel
theorem d_M_clayOf_4 : decode b_M_clayOf 4 = .ok (.iload_n 3, 1) := by decide +kernel
theorem d_M_clayOf_5 : decode b_M_clayOf 5 = .ok (.aload_n 0, 1) := by decide +kernel
theorem d_M_clayOf_6 : decode b_M_clayOf 6 = .ok (.getfield 51, 3) := by decide +kernel
theorem d_M_clayOf_9 : decode b_M_clayOf 9 = .ok (.if_icmp .ge 33, 3) := by decide +kernel
theorem d_M_clayOf_12 : decode b_M_clayOf 12 = .ok (.iload_n 2, 1) := by decide +kernel
theorem d_M_clayOf_13 : decode b_M_clayOf 13 = .ok (.iload_n 1, 1) := by decide +kernel
theorem d_M_clayOf_14 : decode b_M_clayOf 14 = .ok (.iload_n 3, 1) := by decide +kernel
theorem d_M_clayOf_15 : decode b_M_clayOf 15 = .ok (.invokestatic 78, 3) := by decide +kernel
theorem d_M_clayOf_18 : decode b_M_clayOf 18 = .ok (.ifCond .eq 15, 3) := by decide +kernel
theorem d_M_clayOf_21 : decode b_M_clayOf 21 = .ok (.aload_n 0, 1) := by decide +kernel
theorem d_M_clayOf_22 : decode b_M_clayOf 22 = .ok (.getfield 25, 3) := by decide +kernel
theorem d_M_clayOf_25 : decode b_M_clayOf 25 = .ok (.bipush 6, 2) := by decide +kernel
theorem d_M_clayOf_27 : decode b_M_clayOf 27 = .ok (.iload_n 3, 1) := by decide +kernel
theorem d_M_clayOf_28 : decode b_M_clayOf 28 = .ok (.iadd, 1) := by decide +kernel
theorem d_M_clayOf_29 : decode b_M_clayOf 29 = .ok (.iaload, 1) := by decide +kernel
theorem d_M_clayOf_30 : decode b_M_clayOf 30 = .ok (.goto 4, 3) := by decide +kernel
theorem d_M_clayOf_33 : decode b_M_clayOf 33 = .ok (.iconst 0, 1) := by decide +kernel
theorem d_M_clayOf_34 : decode b_M_clayOf 34 = .ok (.iadd, 1) := by decide +kernel
theorem d_M_clayOf_35 : decode b_M_clayOf 35 = .ok (.istore_n 2, 1) := by decide +kernel
theorem d_M_clayOf_36 : decode b_M_clayOf 36 = .ok (.iinc 3 1, 3) := by decide +kernel
theorem d_M_clayOf_39 : decode b_M_clayOf 39 = .ok (.goto (-35), 3) := by decide +kernel
theorem d_M_clayOf_42 : decode b_M_clayOf 42 = .ok (.iload_n 2, 1) := by decide +kernel
theorem d_M_clayOf_43 : decode b_M_clayOf 43 = .ok (.ireturn, 1) := by decide +kernel
abbrev b_M_farm : ByteArray := prog_5_method_26_code
def y_M_farm : MethodName := ⟨R_M, "farm", "(II)I"⟩
theorem mc_M_farm : Cond.code y_M_farm b_M_farm 3 (Option.some .int) ∈ lw_use := g_use (List.mem_of_getElem? (i := 607) (by decide +kernel)) rfl
theorem d_M_farm_0 : decode b_M_farm 0 = .ok (.aload_n 0, 1) := by decide +kernel
theorem d_M_farm_1 : decode b_M_farm 1 = .ok (.iconst 0, 1) := by decide +kernel
theorem d_M_farm_2 : decode b_M_farm 2 = .ok (.putfield 47, 3) := by decide +kernel
theorem d_M_farm_5 : decode b_M_farm 5 = .ok (.aload_n 0, 1) := by decide +kernel
theorem d_M_farm_6 : decode b_M_farm 6 = .ok (.iload_n 1, 1) := by decide +kernel
theorem d_M_farm_7 : decode b_M_farm 7 = .ok (.invokevirtual 115, 3) := by decide +kernel
theorem d_M_farm_10 : decode b_M_farm 10 = .ok (.ifCond .eq 5, 3) := by decide +kernel
theorem d_M_farm_13 : decode b_M_farm 13 = .ok (.iconst (-1), 1) := by decide +kernel
theorem d_M_farm_14 : decode b_M_farm 14 = .ok (.ireturn, 1) := by decide +kernel
theorem d_M_farm_15 : decode b_M_farm 15 = .ok (.iload_n 2, 1) := by decide +kernel
theorem d_M_farm_16 : decode b_M_farm 16 = .ok (.tableswitch 104 0 6 #[44, 53, 60, 70, 77, 84, 94], 44) := by decide +kernel
theorem d_M_farm_60 : decode b_M_farm 60 = .ok (.aload_n 0, 1) := by decide +kernel
theorem d_M_farm_61 : decode b_M_farm 61 = .ok (.getfield 25, 3) := by decide +kernel
theorem d_M_farm_64 : decode b_M_farm 64 = .ok (.iconst 0, 1) := by decide +kernel
theorem d_M_farm_65 : decode b_M_farm 65 = .ok (.iload_n 1, 1) := by decide +kernel
theorem d_M_farm_66 : decode b_M_farm 66 = .ok (.iadd, 1) := by decide +kernel
theorem d_M_farm_67 : decode b_M_farm 67 = .ok (.iaload, 1) := by decide +kernel
theorem d_M_farm_68 : decode b_M_farm 68 = .ok (.ireturn, 1) := by decide +kernel
theorem d_M_farm_69 : decode b_M_farm 69 = .ok (.aload_n 0, 1) := by decide +kernel
theorem d_M_farm_70 : decode b_M_farm 70 = .ok (.getfield 13, 3) := by decide +kernel
theorem d_M_farm_73 : decode b_M_farm 73 = .ok (.iload_n 1, 1) := by decide +kernel
theorem d_M_farm_74 : decode b_M_farm 74 = .ok (.iaload, 1) := by decide +kernel
theorem d_M_farm_75 : decode b_M_farm 75 = .ok (.ireturn, 1) := by decide +kernel
theorem d_M_farm_76 : decode b_M_farm 76 = .ok (.aload_n 0, 1) := by decide +kernel
theorem d_M_farm_77 : decode b_M_farm 77 = .ok (.getfield 25, 3) := by decide +kernel
theorem d_M_farm_80 : decode b_M_farm 80 = .ok (.bipush 6, 2) := by decide +kernel
theorem d_M_farm_82 : decode b_M_farm 82 = .ok (.iload_n 1, 1) := by decide +kernel
theorem d_M_farm_83 : decode b_M_farm 83 = .ok (.iadd, 1) := by decide +kernel
theorem d_M_farm_84 : decode b_M_farm 84 = .ok (.iaload, 1) := by decide +kernel
theorem d_M_farm_85 : decode b_M_farm 85 = .ok (.ireturn, 1) := by decide +kernel
theorem d_M_farm_86 : decode b_M_farm 86 = .ok (.aload_n 0, 1) := by decide +kernel
theorem d_M_farm_87 : decode b_M_farm 87 = .ok (.getfield 16, 3) := by decide +kernel
theorem d_M_farm_90 : decode b_M_farm 90 = .ok (.iload_n 1, 1) := by decide +kernel
theorem d_M_farm_91 : decode b_M_farm 91 = .ok (.iaload, 1) := by decide +kernel
theorem d_M_farm_92 : decode b_M_farm 92 = .ok (.ireturn, 1) := by decide +kernel
theorem d_M_farm_93 : decode b_M_farm 93 = .ok (.aload_n 0, 1) := by decide +kernel
theorem d_M_farm_94 : decode b_M_farm 94 = .ok (.getfield 19, 3) := by decide +kernel
theorem d_M_farm_97 : decode b_M_farm 97 = .ok (.iload_n 1, 1) := by decide +kernel
theorem d_M_farm_98 : decode b_M_farm 98 = .ok (.iaload, 1) := by decide +kernel
theorem d_M_farm_99 : decode b_M_farm 99 = .ok (.ireturn, 1) := by decide +kernel
theorem d_M_farm_100 : decode b_M_farm 100 = .ok (.aload_n 0, 1) := by decide +kernel
theorem d_M_farm_101 : decode b_M_farm 101 = .ok (.getfield 25, 3) := by decide +kernel
theorem d_M_farm_104 : decode b_M_farm 104 = .ok (.bipush 12, 2) := by decide +kernel
theorem d_M_farm_106 : decode b_M_farm 106 = .ok (.iload_n 1, 1) := by decide +kernel
theorem d_M_farm_107 : decode b_M_farm 107 = .ok (.iadd, 1) := by decide +kernel
theorem d_M_farm_108 : decode b_M_farm 108 = .ok (.iaload, 1) := by decide +kernel
theorem d_M_farm_109 : decode b_M_farm 109 = .ok (.ireturn, 1) := by decide +kernel
theorem d_M_farm_110 : decode b_M_farm 110 = .ok (.aload_n 0, 1) := by decide +kernel
theorem d_M_farm_111 : decode b_M_farm 111 = .ok (.aload_n 0, 1) := by decide +kernel
theorem d_M_farm_112 : decode b_M_farm 112 = .ok (.getfield 25, 3) := by decide +kernel
theorem d_M_farm_115 : decode b_M_farm 115 = .ok (.iload_n 1, 1) := by decide +kernel
theorem d_M_farm_116 : decode b_M_farm 116 = .ok (.invokevirtual 101, 3) := by decide +kernel
theorem d_M_farm_119 : decode b_M_farm 119 = .ok (.ireturn, 1) := by decide +kernel
theorem d_M_farm_120 : decode b_M_farm 120 = .ok (.bipush (-2), 2) := by decide +kernel
theorem d_M_farm_122 : decode b_M_farm 122 = .ok (.ireturn, 1) := by decide +kernel
abbrev b_M_owes : ByteArray := prog_5_method_27_code
def y_M_owes : MethodName := ⟨R_M, "owes", "(II)I"⟩
theorem mc_M_owes : Cond.code y_M_owes b_M_owes 3 (Option.some .int) ∈ lw_use := g_use (List.mem_of_getElem? (i := 619) (by decide +kernel)) rfl
theorem d_M_owes_0 : decode b_M_owes 0 = .ok (.aload_n 0, 1) := by decide +kernel
theorem d_M_owes_1 : decode b_M_owes 1 = .ok (.iconst 0, 1) := by decide +kernel
theorem d_M_owes_2 : decode b_M_owes 2 = .ok (.putfield 47, 3) := by decide +kernel
theorem d_M_owes_5 : decode b_M_owes 5 = .ok (.aload_n 0, 1) := by decide +kernel
theorem d_M_owes_6 : decode b_M_owes 6 = .ok (.iload_n 1, 1) := by decide +kernel
theorem d_M_owes_7 : decode b_M_owes 7 = .ok (.invokevirtual 115, 3) := by decide +kernel
theorem d_M_owes_10 : decode b_M_owes 10 = .ok (.ifCond .ne 11, 3) := by decide +kernel
theorem d_M_owes_13 : decode b_M_owes 13 = .ok (.aload_n 0, 1) := by decide +kernel
theorem d_M_owes_14 : decode b_M_owes 14 = .ok (.iload_n 2, 1) := by decide +kernel
theorem d_M_owes_15 : decode b_M_owes 15 = .ok (.invokevirtual 115, 3) := by decide +kernel
theorem d_M_owes_18 : decode b_M_owes 18 = .ok (.ifCond .eq 7, 3) := by decide +kernel
theorem d_M_owes_21 : decode b_M_owes 21 = .ok (.iconst (-1), 1) := by decide +kernel
theorem d_M_owes_22 : decode b_M_owes 22 = .ok (.goto 17, 3) := by decide +kernel
theorem d_M_owes_25 : decode b_M_owes 25 = .ok (.aload_n 0, 1) := by decide +kernel
theorem d_M_owes_26 : decode b_M_owes 26 = .ok (.getfield 25, 3) := by decide +kernel
theorem d_M_owes_29 : decode b_M_owes 29 = .ok (.bipush 21, 2) := by decide +kernel
theorem d_M_owes_31 : decode b_M_owes 31 = .ok (.bipush 6, 2) := by decide +kernel
theorem d_M_owes_33 : decode b_M_owes 33 = .ok (.iload_n 1, 1) := by decide +kernel
theorem d_M_owes_34 : decode b_M_owes 34 = .ok (.imul, 1) := by decide +kernel
theorem d_M_owes_35 : decode b_M_owes 35 = .ok (.iadd, 1) := by decide +kernel
theorem d_M_owes_36 : decode b_M_owes 36 = .ok (.iload_n 2, 1) := by decide +kernel
theorem d_M_owes_37 : decode b_M_owes 37 = .ok (.iadd, 1) := by decide +kernel
theorem d_M_owes_38 : decode b_M_owes 38 = .ok (.iaload, 1) := by decide +kernel
theorem d_M_owes_39 : decode b_M_owes 39 = .ok (.ireturn, 1) := by decide +kernel
abbrev b_M_note : ByteArray := prog_5_method_28_code
def y_M_note : MethodName := ⟨R_M, "note", "()V"⟩
theorem mc_M_note : Cond.code y_M_note b_M_note 2 none ∈ lw_use := g_use (List.mem_of_getElem? (i := 631) (by decide +kernel)) rfl
theorem d_M_note_0 : decode b_M_note 0 = .ok (.aload_n 0, 1) := by decide +kernel
theorem d_M_note_1 : decode b_M_note 1 = .ok (.getfield 98, 3) := by decide +kernel
theorem d_M_note_4 : decode b_M_note 4 = .ok (.bipush 14, 2) := by decide +kernel
theorem d_M_note_6 : decode b_M_note 6 = .ok (.if_icmp .ne 43, 3) := by decide +kernel
theorem d_M_note_9 : decode b_M_note 9 = .ok (.iconst 0, 1) := by decide +kernel
theorem d_M_note_10 : decode b_M_note 10 = .ok (.istore_n 1, 1) := by decide +kernel
theorem d_M_note_11 : decode b_M_note 11 = .ok (.iload_n 1, 1) := by decide +kernel
theorem d_M_note_12 : decode b_M_note 12 = .ok (.sipush 741, 3) := by decide +kernel
theorem d_M_note_15 : decode b_M_note 15 = .ok (.if_icmp .ge 24, 3) := by decide +kernel
theorem d_M_note_18 : decode b_M_note 18 = .ok (.aload_n 0, 1) := by decide +kernel
theorem d_M_note_19 : decode b_M_note 19 = .ok (.getfield 31, 3) := by decide +kernel
theorem d_M_note_22 : decode b_M_note 22 = .ok (.iload_n 1, 1) := by decide +kernel
theorem d_M_note_23 : decode b_M_note 23 = .ok (.aload_n 0, 1) := by decide +kernel
theorem d_M_note_24 : decode b_M_note 24 = .ok (.getfield 31, 3) := by decide +kernel
theorem d_M_note_27 : decode b_M_note 27 = .ok (.iload_n 1, 1) := by decide +kernel
theorem d_M_note_28 : decode b_M_note 28 = .ok (.bipush 57, 2) := by decide +kernel
theorem d_M_note_30 : decode b_M_note 30 = .ok (.iadd, 1) := by decide +kernel
theorem d_M_note_31 : decode b_M_note 31 = .ok (.iaload, 1) := by decide +kernel
theorem d_M_note_32 : decode b_M_note 32 = .ok (.iastore, 1) := by decide +kernel
theorem d_M_note_33 : decode b_M_note 33 = .ok (.iinc 1 1, 3) := by decide +kernel
theorem d_M_note_36 : decode b_M_note 36 = .ok (.goto (-25), 3) := by decide +kernel
theorem d_M_note_39 : decode b_M_note 39 = .ok (.aload_n 0, 1) := by decide +kernel
theorem d_M_note_40 : decode b_M_note 40 = .ok (.dup, 1) := by decide +kernel
theorem d_M_note_41 : decode b_M_note 41 = .ok (.getfield 98, 3) := by decide +kernel
theorem d_M_note_44 : decode b_M_note 44 = .ok (.iconst 1, 1) := by decide +kernel
theorem d_M_note_45 : decode b_M_note 45 = .ok (.isub, 1) := by decide +kernel
theorem d_M_note_46 : decode b_M_note 46 = .ok (.putfield 98, 3) := by decide +kernel
theorem d_M_note_49 : decode b_M_note 49 = .ok (.iconst 0, 1) := by decide +kernel
theorem d_M_note_50 : decode b_M_note 50 = .ok (.istore_n 1, 1) := by decide +kernel
theorem d_M_note_51 : decode b_M_note 51 = .ok (.iload_n 1, 1) := by decide +kernel
theorem d_M_note_52 : decode b_M_note 52 = .ok (.bipush 57, 2) := by decide +kernel
theorem d_M_note_54 : decode b_M_note 54 = .ok (.if_icmp .ge 29, 3) := by decide +kernel
theorem d_M_note_57 : decode b_M_note 57 = .ok (.aload_n 0, 1) := by decide +kernel
theorem d_M_note_58 : decode b_M_note 58 = .ok (.getfield 31, 3) := by decide +kernel
theorem d_M_note_61 : decode b_M_note 61 = .ok (.bipush 57, 2) := by decide +kernel
theorem d_M_note_63 : decode b_M_note 63 = .ok (.aload_n 0, 1) := by decide +kernel
theorem d_M_note_64 : decode b_M_note 64 = .ok (.getfield 98, 3) := by decide +kernel
theorem d_M_note_67 : decode b_M_note 67 = .ok (.imul, 1) := by decide +kernel
theorem d_M_note_68 : decode b_M_note 68 = .ok (.iload_n 1, 1) := by decide +kernel
theorem d_M_note_69 : decode b_M_note 69 = .ok (.iadd, 1) := by decide +kernel
theorem d_M_note_70 : decode b_M_note 70 = .ok (.aload_n 0, 1) := by decide +kernel
theorem d_M_note_71 : decode b_M_note 71 = .ok (.getfield 25, 3) := by decide +kernel
theorem d_M_note_74 : decode b_M_note 74 = .ok (.iload_n 1, 1) := by decide +kernel
theorem d_M_note_75 : decode b_M_note 75 = .ok (.iaload, 1) := by decide +kernel
theorem d_M_note_76 : decode b_M_note 76 = .ok (.iastore, 1) := by decide +kernel
theorem d_M_note_77 : decode b_M_note 77 = .ok (.iinc 1 1, 3) := by decide +kernel
theorem d_M_note_80 : decode b_M_note 80 = .ok (.goto (-29), 3) := by decide +kernel
theorem d_M_note_83 : decode b_M_note 83 = .ok (.aload_n 0, 1) := by decide +kernel
theorem d_M_note_84 : decode b_M_note 84 = .ok (.dup, 1) := by decide +kernel
theorem d_M_note_85 : decode b_M_note 85 = .ok (.getfield 98, 3) := by decide +kernel
theorem d_M_note_88 : decode b_M_note 88 = .ok (.iconst 1, 1) := by decide +kernel
theorem d_M_note_89 : decode b_M_note 89 = .ok (.iadd, 1) := by decide +kernel
theorem d_M_note_90 : decode b_M_note 90 = .ok (.putfield 98, 3) := by decide +kernel
theorem d_M_note_93 : decode b_M_note 93 = .ok (.return_, 1) := by decide +kernel
abbrev b_M_storm : ByteArray := prog_5_method_29_code
def y_M_storm : MethodName := ⟨R_M, "storm", "(I)I"⟩
theorem mc_M_storm : Cond.code y_M_storm b_M_storm 2 (Option.some .int) ∈ lw_use := g_use (List.mem_of_getElem? (i := 623) (by decide +kernel)) rfl
theorem d_M_storm_0 : decode b_M_storm 0 = .ok (.aload_n 0, 1) := by decide +kernel
theorem d_M_storm_1 : decode b_M_storm 1 = .ok (.iconst 0, 1) := by decide +kernel
theorem d_M_storm_2 : decode b_M_storm 2 = .ok (.putfield 47, 3) := by decide +kernel
theorem d_M_storm_5 : decode b_M_storm 5 = .ok (.iload_n 1, 1) := by decide +kernel
theorem d_M_storm_6 : decode b_M_storm 6 = .ok (.invokestatic 119, 3) := by decide +kernel
theorem d_M_storm_9 : decode b_M_storm 9 = .ok (.ifCond .eq 6, 3) := by decide +kernel
theorem d_M_storm_12 : decode b_M_storm 12 = .ok (.bipush (-2), 2) := by decide +kernel
theorem d_M_storm_14 : decode b_M_storm 14 = .ok (.ireturn, 1) := by decide +kernel
theorem d_M_storm_15 : decode b_M_storm 15 = .ok (.aload_n 0, 1) := by decide +kernel
theorem d_M_storm_16 : decode b_M_storm 16 = .ok (.invokevirtual 122, 3) := by decide +kernel
theorem d_M_storm_19 : decode b_M_storm 19 = .ok (.aload_n 0, 1) := by decide +kernel
theorem d_M_storm_20 : decode b_M_storm 20 = .ok (.aload_n 0, 1) := by decide +kernel
theorem d_M_storm_21 : decode b_M_storm 21 = .ok (.aload_n 0, 1) := by decide +kernel
theorem d_M_storm_22 : decode b_M_storm 22 = .ok (.getfield 25, 3) := by decide +kernel
theorem d_M_storm_25 : decode b_M_storm 25 = .ok (.aload_n 0, 1) := by decide +kernel
theorem d_M_storm_26 : decode b_M_storm 26 = .ok (.aload_n 0, 1) := by decide +kernel
theorem d_M_storm_27 : decode b_M_storm 27 = .ok (.getfield 25, 3) := by decide +kernel
theorem d_M_storm_30 : decode b_M_storm 30 = .ok (.iload_n 1, 1) := by decide +kernel
theorem d_M_storm_31 : decode b_M_storm 31 = .ok (.invokevirtual 125, 3) := by decide +kernel
theorem d_M_storm_34 : decode b_M_storm 34 = .ok (.invokevirtual 128, 3) := by decide +kernel
theorem d_M_storm_37 : decode b_M_storm 37 = .ok (.invokevirtual 131, 3) := by decide +kernel
theorem d_M_storm_40 : decode b_M_storm 40 = .ok (.ireturn, 1) := by decide +kernel
abbrev b_M_carry : ByteArray := prog_5_method_30_code
def y_M_carry : MethodName := ⟨R_M, "carry", "(II)I"⟩
theorem mc_M_carry : Cond.code y_M_carry b_M_carry 3 (Option.some .int) ∈ lw_use := g_use (List.mem_of_getElem? (i := 651) (by decide +kernel)) rfl
theorem d_M_carry_0 : decode b_M_carry 0 = .ok (.aload_n 0, 1) := by decide +kernel
theorem d_M_carry_1 : decode b_M_carry 1 = .ok (.iconst 0, 1) := by decide +kernel
theorem d_M_carry_2 : decode b_M_carry 2 = .ok (.putfield 47, 3) := by decide +kernel
theorem d_M_carry_5 : decode b_M_carry 5 = .ok (.aload_n 0, 1) := by decide +kernel
theorem d_M_carry_6 : decode b_M_carry 6 = .ok (.iload_n 1, 1) := by decide +kernel
theorem d_M_carry_7 : decode b_M_carry 7 = .ok (.invokevirtual 115, 3) := by decide +kernel
theorem d_M_carry_10 : decode b_M_carry 10 = .ok (.ifCond .ne 11, 3) := by decide +kernel
theorem d_M_carry_13 : decode b_M_carry 13 = .ok (.aload_n 0, 1) := by decide +kernel
theorem d_M_carry_14 : decode b_M_carry 14 = .ok (.iload_n 2, 1) := by decide +kernel
theorem d_M_carry_15 : decode b_M_carry 15 = .ok (.invokevirtual 115, 3) := by decide +kernel
theorem d_M_carry_18 : decode b_M_carry 18 = .ok (.ifCond .eq 5, 3) := by decide +kernel
theorem d_M_carry_21 : decode b_M_carry 21 = .ok (.iconst (-1), 1) := by decide +kernel
theorem d_M_carry_22 : decode b_M_carry 22 = .ok (.ireturn, 1) := by decide +kernel
theorem d_M_carry_23 : decode b_M_carry 23 = .ok (.aload_n 0, 1) := by decide +kernel
theorem d_M_carry_24 : decode b_M_carry 24 = .ok (.getfield 25, 3) := by decide +kernel
theorem d_M_carry_27 : decode b_M_carry 27 = .ok (.bipush 6, 2) := by decide +kernel
theorem d_M_carry_29 : decode b_M_carry 29 = .ok (.iload_n 1, 1) := by decide +kernel
theorem d_M_carry_30 : decode b_M_carry 30 = .ok (.iadd, 1) := by decide +kernel
theorem d_M_carry_31 : decode b_M_carry 31 = .ok (.iaload, 1) := by decide +kernel
theorem d_M_carry_32 : decode b_M_carry 32 = .ok (.ifCond .ne 6, 3) := by decide +kernel
theorem d_M_carry_35 : decode b_M_carry 35 = .ok (.bipush (-3), 2) := by decide +kernel
theorem d_M_carry_37 : decode b_M_carry 37 = .ok (.ireturn, 1) := by decide +kernel
theorem d_M_carry_38 : decode b_M_carry 38 = .ok (.aload_n 0, 1) := by decide +kernel
theorem d_M_carry_39 : decode b_M_carry 39 = .ok (.getfield 25, 3) := by decide +kernel
theorem d_M_carry_42 : decode b_M_carry 42 = .ok (.iconst 0, 1) := by decide +kernel
theorem d_M_carry_43 : decode b_M_carry 43 = .ok (.iload_n 2, 1) := by decide +kernel
theorem d_M_carry_44 : decode b_M_carry 44 = .ok (.iadd, 1) := by decide +kernel
theorem d_M_carry_45 : decode b_M_carry 45 = .ok (.iaload, 1) := by decide +kernel
theorem d_M_carry_46 : decode b_M_carry 46 = .ok (.bipush 15, 2) := by decide +kernel
theorem d_M_carry_48 : decode b_M_carry 48 = .ok (.if_icmp .lt 6, 3) := by decide +kernel
theorem d_M_carry_51 : decode b_M_carry 51 = .ok (.bipush (-4), 2) := by decide +kernel
theorem d_M_carry_53 : decode b_M_carry 53 = .ok (.ireturn, 1) := by decide +kernel
theorem d_M_carry_54 : decode b_M_carry 54 = .ok (.aload_n 0, 1) := by decide +kernel
theorem d_M_carry_55 : decode b_M_carry 55 = .ok (.invokevirtual 122, 3) := by decide +kernel
theorem d_M_carry_58 : decode b_M_carry 58 = .ok (.aload_n 0, 1) := by decide +kernel
theorem d_M_carry_59 : decode b_M_carry 59 = .ok (.getfield 25, 3) := by decide +kernel
theorem d_M_carry_62 : decode b_M_carry 62 = .ok (.bipush 6, 2) := by decide +kernel
theorem d_M_carry_64 : decode b_M_carry 64 = .ok (.iload_n 1, 1) := by decide +kernel
theorem d_M_carry_65 : decode b_M_carry 65 = .ok (.iadd, 1) := by decide +kernel
theorem d_M_carry_66 : decode b_M_carry 66 = .ok (.dup2, 1) := by decide +kernel
theorem d_M_carry_67 : decode b_M_carry 67 = .ok (.iaload, 1) := by decide +kernel
theorem d_M_carry_68 : decode b_M_carry 68 = .ok (.iconst 1, 1) := by decide +kernel
theorem d_M_carry_69 : decode b_M_carry 69 = .ok (.isub, 1) := by decide +kernel
theorem d_M_carry_70 : decode b_M_carry 70 = .ok (.iastore, 1) := by decide +kernel
theorem d_M_carry_71 : decode b_M_carry 71 = .ok (.aload_n 0, 1) := by decide +kernel
theorem d_M_carry_72 : decode b_M_carry 72 = .ok (.getfield 25, 3) := by decide +kernel
theorem d_M_carry_75 : decode b_M_carry 75 = .ok (.iconst 0, 1) := by decide +kernel
theorem d_M_carry_76 : decode b_M_carry 76 = .ok (.iload_n 2, 1) := by decide +kernel
theorem d_M_carry_77 : decode b_M_carry 77 = .ok (.iadd, 1) := by decide +kernel
theorem d_M_carry_78 : decode b_M_carry 78 = .ok (.dup2, 1) := by decide +kernel
theorem d_M_carry_79 : decode b_M_carry 79 = .ok (.iaload, 1) := by decide +kernel
theorem d_M_carry_80 : decode b_M_carry 80 = .ok (.iconst 1, 1) := by decide +kernel
theorem d_M_carry_81 : decode b_M_carry 81 = .ok (.iadd, 1) := by decide +kernel
theorem d_M_carry_82 : decode b_M_carry 82 = .ok (.iastore, 1) := by decide +kernel
theorem d_M_carry_83 : decode b_M_carry 83 = .ok (.aload_n 0, 1) := by decide +kernel
theorem d_M_carry_84 : decode b_M_carry 84 = .ok (.getfield 25, 3) := by decide +kernel
theorem d_M_carry_87 : decode b_M_carry 87 = .ok (.iconst 0, 1) := by decide +kernel
theorem d_M_carry_88 : decode b_M_carry 88 = .ok (.iload_n 2, 1) := by decide +kernel
theorem d_M_carry_89 : decode b_M_carry 89 = .ok (.iadd, 1) := by decide +kernel
theorem d_M_carry_90 : decode b_M_carry 90 = .ok (.iaload, 1) := by decide +kernel
theorem d_M_carry_91 : decode b_M_carry 91 = .ok (.ireturn, 1) := by decide +kernel
abbrev b_M_lend : ByteArray := prog_5_method_31_code
def y_M_lend : MethodName := ⟨R_M, "lend", "(II)I"⟩
theorem mc_M_lend : Cond.code y_M_lend b_M_lend 3 (Option.some .int) ∈ lw_use := g_use (List.mem_of_getElem? (i := 655) (by decide +kernel)) rfl
theorem d_M_lend_0 : decode b_M_lend 0 = .ok (.aload_n 0, 1) := by decide +kernel
theorem d_M_lend_1 : decode b_M_lend 1 = .ok (.iconst 0, 1) := by decide +kernel
theorem d_M_lend_2 : decode b_M_lend 2 = .ok (.putfield 47, 3) := by decide +kernel
theorem d_M_lend_5 : decode b_M_lend 5 = .ok (.aload_n 0, 1) := by decide +kernel
theorem d_M_lend_6 : decode b_M_lend 6 = .ok (.iload_n 1, 1) := by decide +kernel
theorem d_M_lend_7 : decode b_M_lend 7 = .ok (.invokevirtual 115, 3) := by decide +kernel
theorem d_M_lend_10 : decode b_M_lend 10 = .ok (.ifCond .ne 11, 3) := by decide +kernel
theorem d_M_lend_13 : decode b_M_lend 13 = .ok (.aload_n 0, 1) := by decide +kernel
theorem d_M_lend_14 : decode b_M_lend 14 = .ok (.iload_n 2, 1) := by decide +kernel
theorem d_M_lend_15 : decode b_M_lend 15 = .ok (.invokevirtual 115, 3) := by decide +kernel
theorem d_M_lend_18 : decode b_M_lend 18 = .ok (.ifCond .eq 5, 3) := by decide +kernel
theorem d_M_lend_21 : decode b_M_lend 21 = .ok (.iconst (-1), 1) := by decide +kernel
theorem d_M_lend_22 : decode b_M_lend 22 = .ok (.ireturn, 1) := by decide +kernel
theorem d_M_lend_23 : decode b_M_lend 23 = .ok (.iload_n 1, 1) := by decide +kernel
theorem d_M_lend_24 : decode b_M_lend 24 = .ok (.iload_n 2, 1) := by decide +kernel
theorem d_M_lend_25 : decode b_M_lend 25 = .ok (.if_icmp .ne 6, 3) := by decide +kernel
theorem d_M_lend_28 : decode b_M_lend 28 = .ok (.bipush (-2), 2) := by decide +kernel
theorem d_M_lend_30 : decode b_M_lend 30 = .ok (.ireturn, 1) := by decide +kernel
theorem d_M_lend_31 : decode b_M_lend 31 = .ok (.aload_n 0, 1) := by decide +kernel
theorem d_M_lend_32 : decode b_M_lend 32 = .ok (.getfield 25, 3) := by decide +kernel
theorem d_M_lend_35 : decode b_M_lend 35 = .ok (.bipush 6, 2) := by decide +kernel
theorem d_M_lend_37 : decode b_M_lend 37 = .ok (.iload_n 1, 1) := by decide +kernel
theorem d_M_lend_38 : decode b_M_lend 38 = .ok (.iadd, 1) := by decide +kernel
theorem d_M_lend_39 : decode b_M_lend 39 = .ok (.iaload, 1) := by decide +kernel
theorem d_M_lend_40 : decode b_M_lend 40 = .ok (.ifCond .ne 6, 3) := by decide +kernel
theorem d_M_lend_43 : decode b_M_lend 43 = .ok (.bipush (-3), 2) := by decide +kernel
theorem d_M_lend_45 : decode b_M_lend 45 = .ok (.ireturn, 1) := by decide +kernel
theorem d_M_lend_46 : decode b_M_lend 46 = .ok (.aload_n 0, 1) := by decide +kernel
theorem d_M_lend_47 : decode b_M_lend 47 = .ok (.invokevirtual 122, 3) := by decide +kernel
theorem d_M_lend_50 : decode b_M_lend 50 = .ok (.aload_n 0, 1) := by decide +kernel
theorem d_M_lend_51 : decode b_M_lend 51 = .ok (.getfield 25, 3) := by decide +kernel
theorem d_M_lend_54 : decode b_M_lend 54 = .ok (.bipush 6, 2) := by decide +kernel
theorem d_M_lend_56 : decode b_M_lend 56 = .ok (.iload_n 1, 1) := by decide +kernel
theorem d_M_lend_57 : decode b_M_lend 57 = .ok (.iadd, 1) := by decide +kernel
theorem d_M_lend_58 : decode b_M_lend 58 = .ok (.dup2, 1) := by decide +kernel
theorem d_M_lend_59 : decode b_M_lend 59 = .ok (.iaload, 1) := by decide +kernel
theorem d_M_lend_60 : decode b_M_lend 60 = .ok (.iconst 1, 1) := by decide +kernel
theorem d_M_lend_61 : decode b_M_lend 61 = .ok (.isub, 1) := by decide +kernel
theorem d_M_lend_62 : decode b_M_lend 62 = .ok (.iastore, 1) := by decide +kernel
theorem d_M_lend_63 : decode b_M_lend 63 = .ok (.aload_n 0, 1) := by decide +kernel
theorem d_M_lend_64 : decode b_M_lend 64 = .ok (.getfield 25, 3) := by decide +kernel
theorem d_M_lend_67 : decode b_M_lend 67 = .ok (.bipush 6, 2) := by decide +kernel
theorem d_M_lend_69 : decode b_M_lend 69 = .ok (.iload_n 2, 1) := by decide +kernel
theorem d_M_lend_70 : decode b_M_lend 70 = .ok (.iadd, 1) := by decide +kernel
theorem d_M_lend_71 : decode b_M_lend 71 = .ok (.dup2, 1) := by decide +kernel
theorem d_M_lend_72 : decode b_M_lend 72 = .ok (.iaload, 1) := by decide +kernel
theorem d_M_lend_73 : decode b_M_lend 73 = .ok (.iconst 1, 1) := by decide +kernel
theorem d_M_lend_74 : decode b_M_lend 74 = .ok (.iadd, 1) := by decide +kernel
theorem d_M_lend_75 : decode b_M_lend 75 = .ok (.iastore, 1) := by decide +kernel
theorem d_M_lend_76 : decode b_M_lend 76 = .ok (.aload_n 0, 1) := by decide +kernel
theorem d_M_lend_77 : decode b_M_lend 77 = .ok (.getfield 25, 3) := by decide +kernel
theorem d_M_lend_80 : decode b_M_lend 80 = .ok (.bipush 21, 2) := by decide +kernel
theorem d_M_lend_82 : decode b_M_lend 82 = .ok (.bipush 6, 2) := by decide +kernel
theorem d_M_lend_84 : decode b_M_lend 84 = .ok (.iload_n 2, 1) := by decide +kernel
theorem d_M_lend_85 : decode b_M_lend 85 = .ok (.imul, 1) := by decide +kernel
theorem d_M_lend_86 : decode b_M_lend 86 = .ok (.iadd, 1) := by decide +kernel
theorem d_M_lend_87 : decode b_M_lend 87 = .ok (.iload_n 1, 1) := by decide +kernel
theorem d_M_lend_88 : decode b_M_lend 88 = .ok (.iadd, 1) := by decide +kernel
theorem d_M_lend_89 : decode b_M_lend 89 = .ok (.dup2, 1) := by decide +kernel
theorem d_M_lend_90 : decode b_M_lend 90 = .ok (.iaload, 1) := by decide +kernel
theorem d_M_lend_91 : decode b_M_lend 91 = .ok (.iconst 1, 1) := by decide +kernel
theorem d_M_lend_92 : decode b_M_lend 92 = .ok (.iadd, 1) := by decide +kernel
theorem d_M_lend_93 : decode b_M_lend 93 = .ok (.iastore, 1) := by decide +kernel
theorem d_M_lend_94 : decode b_M_lend 94 = .ok (.aload_n 0, 1) := by decide +kernel
theorem d_M_lend_95 : decode b_M_lend 95 = .ok (.getfield 25, 3) := by decide +kernel
theorem d_M_lend_98 : decode b_M_lend 98 = .ok (.bipush 21, 2) := by decide +kernel
theorem d_M_lend_100 : decode b_M_lend 100 = .ok (.bipush 6, 2) := by decide +kernel
theorem d_M_lend_102 : decode b_M_lend 102 = .ok (.iload_n 2, 1) := by decide +kernel
theorem d_M_lend_103 : decode b_M_lend 103 = .ok (.imul, 1) := by decide +kernel
theorem d_M_lend_104 : decode b_M_lend 104 = .ok (.iadd, 1) := by decide +kernel
theorem d_M_lend_105 : decode b_M_lend 105 = .ok (.iload_n 1, 1) := by decide +kernel
theorem d_M_lend_106 : decode b_M_lend 106 = .ok (.iadd, 1) := by decide +kernel
theorem d_M_lend_107 : decode b_M_lend 107 = .ok (.iaload, 1) := by decide +kernel
theorem d_M_lend_108 : decode b_M_lend 108 = .ok (.ireturn, 1) := by decide +kernel
abbrev b_M_stick : ByteArray := prog_5_method_32_code
def y_M_stick : MethodName := ⟨R_M, "stick", "(I)I"⟩
theorem mc_M_stick : Cond.code y_M_stick b_M_stick 2 (Option.some .int) ∈ lw_use := g_use (List.mem_of_getElem? (i := 659) (by decide +kernel)) rfl
theorem d_M_stick_0 : decode b_M_stick 0 = .ok (.aload_n 0, 1) := by decide +kernel
theorem d_M_stick_1 : decode b_M_stick 1 = .ok (.iconst 0, 1) := by decide +kernel
theorem d_M_stick_2 : decode b_M_stick 2 = .ok (.putfield 47, 3) := by decide +kernel
theorem d_M_stick_5 : decode b_M_stick 5 = .ok (.aload_n 0, 1) := by decide +kernel
theorem d_M_stick_6 : decode b_M_stick 6 = .ok (.iload_n 1, 1) := by decide +kernel
theorem d_M_stick_7 : decode b_M_stick 7 = .ok (.invokevirtual 115, 3) := by decide +kernel
theorem d_M_stick_10 : decode b_M_stick 10 = .ok (.ifCond .eq 5, 3) := by decide +kernel
theorem d_M_stick_13 : decode b_M_stick 13 = .ok (.iconst (-1), 1) := by decide +kernel
theorem d_M_stick_14 : decode b_M_stick 14 = .ok (.ireturn, 1) := by decide +kernel
theorem d_M_stick_15 : decode b_M_stick 15 = .ok (.aload_n 0, 1) := by decide +kernel
theorem d_M_stick_16 : decode b_M_stick 16 = .ok (.getfield 25, 3) := by decide +kernel
theorem d_M_stick_19 : decode b_M_stick 19 = .ok (.bipush 18, 2) := by decide +kernel
theorem d_M_stick_21 : decode b_M_stick 21 = .ok (.iaload, 1) := by decide +kernel
theorem d_M_stick_22 : decode b_M_stick 22 = .ok (.iload_n 1, 1) := by decide +kernel
theorem d_M_stick_23 : decode b_M_stick 23 = .ok (.invokestatic 78, 3) := by decide +kernel
theorem d_M_stick_26 : decode b_M_stick 26 = .ok (.ifCond .eq 6, 3) := by decide +kernel
theorem d_M_stick_29 : decode b_M_stick 29 = .ok (.bipush (-3), 2) := by decide +kernel
theorem d_M_stick_31 : decode b_M_stick 31 = .ok (.ireturn, 1) := by decide +kernel
theorem d_M_stick_32 : decode b_M_stick 32 = .ok (.aload_n 0, 1) := by decide +kernel
theorem d_M_stick_33 : decode b_M_stick 33 = .ok (.invokevirtual 122, 3) := by decide +kernel
theorem d_M_stick_36 : decode b_M_stick 36 = .ok (.aload_n 0, 1) := by decide +kernel
theorem d_M_stick_37 : decode b_M_stick 37 = .ok (.getfield 25, 3) := by decide +kernel
theorem d_M_stick_40 : decode b_M_stick 40 = .ok (.bipush 18, 2) := by decide +kernel
theorem d_M_stick_42 : decode b_M_stick 42 = .ok (.dup2, 1) := by decide +kernel
theorem d_M_stick_43 : decode b_M_stick 43 = .ok (.iaload, 1) := by decide +kernel
theorem d_M_stick_44 : decode b_M_stick 44 = .ok (.iconst 1, 1) := by decide +kernel
theorem d_M_stick_45 : decode b_M_stick 45 = .ok (.iload_n 1, 1) := by decide +kernel
theorem d_M_stick_46 : decode b_M_stick 46 = .ok (.ishl, 1) := by decide +kernel
theorem d_M_stick_47 : decode b_M_stick 47 = .ok (.ior, 1) := by decide +kernel
theorem d_M_stick_48 : decode b_M_stick 48 = .ok (.iastore, 1) := by decide +kernel
theorem d_M_stick_49 : decode b_M_stick 49 = .ok (.aload_n 0, 1) := by decide +kernel
theorem d_M_stick_50 : decode b_M_stick 50 = .ok (.getfield 25, 3) := by decide +kernel
theorem d_M_stick_53 : decode b_M_stick 53 = .ok (.bipush 12, 2) := by decide +kernel
theorem d_M_stick_55 : decode b_M_stick 55 = .ok (.iload_n 1, 1) := by decide +kernel
theorem d_M_stick_56 : decode b_M_stick 56 = .ok (.iadd, 1) := by decide +kernel
theorem d_M_stick_57 : decode b_M_stick 57 = .ok (.iaload, 1) := by decide +kernel
theorem d_M_stick_58 : decode b_M_stick 58 = .ok (.ireturn, 1) := by decide +kernel
abbrev b_M_pull : ByteArray := prog_5_method_33_code
def y_M_pull : MethodName := ⟨R_M, "pull", "(II)I"⟩
theorem mc_M_pull : Cond.code y_M_pull b_M_pull 4 (Option.some .int) ∈ lw_use := g_use (List.mem_of_getElem? (i := 663) (by decide +kernel)) rfl
theorem d_M_pull_0 : decode b_M_pull 0 = .ok (.aload_n 0, 1) := by decide +kernel
theorem d_M_pull_1 : decode b_M_pull 1 = .ok (.iconst 0, 1) := by decide +kernel
theorem d_M_pull_2 : decode b_M_pull 2 = .ok (.putfield 47, 3) := by decide +kernel
theorem d_M_pull_5 : decode b_M_pull 5 = .ok (.aload_n 0, 1) := by decide +kernel
theorem d_M_pull_6 : decode b_M_pull 6 = .ok (.iload_n 1, 1) := by decide +kernel
theorem d_M_pull_7 : decode b_M_pull 7 = .ok (.invokevirtual 115, 3) := by decide +kernel
theorem d_M_pull_10 : decode b_M_pull 10 = .ok (.ifCond .ne 11, 3) := by decide +kernel
theorem d_M_pull_13 : decode b_M_pull 13 = .ok (.aload_n 0, 1) := by decide +kernel
theorem d_M_pull_14 : decode b_M_pull 14 = .ok (.iload_n 2, 1) := by decide +kernel
theorem d_M_pull_15 : decode b_M_pull 15 = .ok (.invokevirtual 115, 3) := by decide +kernel
theorem d_M_pull_18 : decode b_M_pull 18 = .ok (.ifCond .eq 5, 3) := by decide +kernel
theorem d_M_pull_21 : decode b_M_pull 21 = .ok (.iconst (-1), 1) := by decide +kernel
theorem d_M_pull_22 : decode b_M_pull 22 = .ok (.ireturn, 1) := by decide +kernel
theorem d_M_pull_23 : decode b_M_pull 23 = .ok (.aload_n 0, 1) := by decide +kernel
theorem d_M_pull_24 : decode b_M_pull 24 = .ok (.getfield 25, 3) := by decide +kernel
theorem d_M_pull_27 : decode b_M_pull 27 = .ok (.bipush 18, 2) := by decide +kernel
theorem d_M_pull_29 : decode b_M_pull 29 = .ok (.iaload, 1) := by decide +kernel
theorem d_M_pull_30 : decode b_M_pull 30 = .ok (.iload_n 2, 1) := by decide +kernel
theorem d_M_pull_31 : decode b_M_pull 31 = .ok (.invokestatic 78, 3) := by decide +kernel
theorem d_M_pull_34 : decode b_M_pull 34 = .ok (.ifCond .ne 6, 3) := by decide +kernel
theorem d_M_pull_37 : decode b_M_pull 37 = .ok (.bipush (-3), 2) := by decide +kernel
theorem d_M_pull_39 : decode b_M_pull 39 = .ok (.ireturn, 1) := by decide +kernel
theorem d_M_pull_40 : decode b_M_pull 40 = .ok (.aload_n 0, 1) := by decide +kernel
theorem d_M_pull_41 : decode b_M_pull 41 = .ok (.invokevirtual 122, 3) := by decide +kernel
theorem d_M_pull_44 : decode b_M_pull 44 = .ok (.aload_n 0, 1) := by decide +kernel
theorem d_M_pull_45 : decode b_M_pull 45 = .ok (.getfield 25, 3) := by decide +kernel
theorem d_M_pull_48 : decode b_M_pull 48 = .ok (.bipush 12, 2) := by decide +kernel
theorem d_M_pull_50 : decode b_M_pull 50 = .ok (.iload_n 2, 1) := by decide +kernel
theorem d_M_pull_51 : decode b_M_pull 51 = .ok (.iadd, 1) := by decide +kernel
theorem d_M_pull_52 : decode b_M_pull 52 = .ok (.iaload, 1) := by decide +kernel
theorem d_M_pull_53 : decode b_M_pull 53 = .ok (.istore_n 3, 1) := by decide +kernel
theorem d_M_pull_54 : decode b_M_pull 54 = .ok (.aload_n 0, 1) := by decide +kernel
theorem d_M_pull_55 : decode b_M_pull 55 = .ok (.getfield 25, 3) := by decide +kernel
theorem d_M_pull_58 : decode b_M_pull 58 = .ok (.bipush 18, 2) := by decide +kernel
theorem d_M_pull_60 : decode b_M_pull 60 = .ok (.dup2, 1) := by decide +kernel
theorem d_M_pull_61 : decode b_M_pull 61 = .ok (.iaload, 1) := by decide +kernel
theorem d_M_pull_62 : decode b_M_pull 62 = .ok (.iconst 1, 1) := by decide +kernel
theorem d_M_pull_63 : decode b_M_pull 63 = .ok (.iload_n 2, 1) := by decide +kernel
theorem d_M_pull_64 : decode b_M_pull 64 = .ok (.ishl, 1) := by decide +kernel
theorem d_M_pull_65 : decode b_M_pull 65 = .ok (.iconst (-1), 1) := by decide +kernel
theorem d_M_pull_66 : decode b_M_pull 66 = .ok (.ixor, 1) := by decide +kernel
theorem d_M_pull_67 : decode b_M_pull 67 = .ok (.iand, 1) := by decide +kernel
theorem d_M_pull_68 : decode b_M_pull 68 = .ok (.iastore, 1) := by decide +kernel
theorem d_M_pull_69 : decode b_M_pull 69 = .ok (.aload_n 0, 1) := by decide +kernel
theorem d_M_pull_70 : decode b_M_pull 70 = .ok (.getfield 25, 3) := by decide +kernel
theorem d_M_pull_73 : decode b_M_pull 73 = .ok (.bipush 12, 2) := by decide +kernel
theorem d_M_pull_75 : decode b_M_pull 75 = .ok (.iload_n 2, 1) := by decide +kernel
theorem d_M_pull_76 : decode b_M_pull 76 = .ok (.iadd, 1) := by decide +kernel
theorem d_M_pull_77 : decode b_M_pull 77 = .ok (.iload_n 1, 1) := by decide +kernel
theorem d_M_pull_78 : decode b_M_pull 78 = .ok (.iastore, 1) := by decide +kernel
theorem d_M_pull_79 : decode b_M_pull 79 = .ok (.iload_n 3, 1) := by decide +kernel
theorem d_M_pull_80 : decode b_M_pull 80 = .ok (.ireturn, 1) := by decide +kernel
abbrev b_M_dam : ByteArray := prog_5_method_34_code
def y_M_dam : MethodName := ⟨R_M, "dam", "(I)I"⟩
theorem mc_M_dam : Cond.code y_M_dam b_M_dam 2 (Option.some .int) ∈ lw_use := g_use (List.mem_of_getElem? (i := 667) (by decide +kernel)) rfl
theorem d_M_dam_0 : decode b_M_dam 0 = .ok (.aload_n 0, 1) := by decide +kernel
theorem d_M_dam_1 : decode b_M_dam 1 = .ok (.iconst 0, 1) := by decide +kernel
theorem d_M_dam_2 : decode b_M_dam 2 = .ok (.putfield 47, 3) := by decide +kernel
theorem d_M_dam_5 : decode b_M_dam 5 = .ok (.iload_n 1, 1) := by decide +kernel
theorem d_M_dam_6 : decode b_M_dam 6 = .ok (.i2l, 1) := by decide +kernel
theorem d_M_dam_7 : decode b_M_dam 7 = .ok (.lconst 0, 1) := by decide +kernel
theorem d_M_dam_8 : decode b_M_dam 8 = .ok (.aload_n 0, 1) := by decide +kernel
theorem d_M_dam_9 : decode b_M_dam 9 = .ok (.getfield 51, 3) := by decide +kernel
theorem d_M_dam_12 : decode b_M_dam 12 = .ok (.iconst 2, 1) := by decide +kernel
theorem d_M_dam_13 : decode b_M_dam 13 = .ok (.isub, 1) := by decide +kernel
theorem d_M_dam_14 : decode b_M_dam 14 = .ok (.i2l, 1) := by decide +kernel
theorem d_M_dam_15 : decode b_M_dam 15 = .ok (.invokestatic 54, 3) := by decide +kernel
theorem d_M_dam_18 : decode b_M_dam 18 = .ok (.ifCond .ne 5, 3) := by decide +kernel
theorem d_M_dam_21 : decode b_M_dam 21 = .ok (.iconst (-1), 1) := by decide +kernel
theorem d_M_dam_22 : decode b_M_dam 22 = .ok (.ireturn, 1) := by decide +kernel
theorem d_M_dam_23 : decode b_M_dam 23 = .ok (.aload_n 0, 1) := by decide +kernel
theorem d_M_dam_24 : decode b_M_dam 24 = .ok (.invokevirtual 122, 3) := by decide +kernel
theorem d_M_dam_27 : decode b_M_dam 27 = .ok (.aload_n 0, 1) := by decide +kernel
theorem d_M_dam_28 : decode b_M_dam 28 = .ok (.getfield 25, 3) := by decide +kernel
theorem d_M_dam_31 : decode b_M_dam 31 = .ok (.bipush 19, 2) := by decide +kernel
theorem d_M_dam_33 : decode b_M_dam 33 = .ok (.dup2, 1) := by decide +kernel
theorem d_M_dam_34 : decode b_M_dam 34 = .ok (.iaload, 1) := by decide +kernel
theorem d_M_dam_35 : decode b_M_dam 35 = .ok (.iconst 1, 1) := by decide +kernel
theorem d_M_dam_36 : decode b_M_dam 36 = .ok (.iload_n 1, 1) := by decide +kernel
theorem d_M_dam_37 : decode b_M_dam 37 = .ok (.ishl, 1) := by decide +kernel
theorem d_M_dam_38 : decode b_M_dam 38 = .ok (.ixor, 1) := by decide +kernel
theorem d_M_dam_39 : decode b_M_dam 39 = .ok (.iastore, 1) := by decide +kernel
theorem d_M_dam_40 : decode b_M_dam 40 = .ok (.aload_n 0, 1) := by decide +kernel
theorem d_M_dam_41 : decode b_M_dam 41 = .ok (.getfield 25, 3) := by decide +kernel
theorem d_M_dam_44 : decode b_M_dam 44 = .ok (.bipush 19, 2) := by decide +kernel
theorem d_M_dam_46 : decode b_M_dam 46 = .ok (.iaload, 1) := by decide +kernel
theorem d_M_dam_47 : decode b_M_dam 47 = .ok (.iload_n 1, 1) := by decide +kernel
theorem d_M_dam_48 : decode b_M_dam 48 = .ok (.ishr, 1) := by decide +kernel
theorem d_M_dam_49 : decode b_M_dam 49 = .ok (.iconst 1, 1) := by decide +kernel
theorem d_M_dam_50 : decode b_M_dam 50 = .ok (.iand, 1) := by decide +kernel
theorem d_M_dam_51 : decode b_M_dam 51 = .ok (.ireturn, 1) := by decide +kernel
abbrev b_M_undo : ByteArray := prog_5_method_35_code
def y_M_undo : MethodName := ⟨R_M, "undo", "()I"⟩
theorem mc_M_undo : Cond.code y_M_undo b_M_undo 2 (Option.some .int) ∈ lw_use := g_use (List.mem_of_getElem? (i := 671) (by decide +kernel)) rfl
theorem d_M_undo_0 : decode b_M_undo 0 = .ok (.aload_n 0, 1) := by decide +kernel
theorem d_M_undo_1 : decode b_M_undo 1 = .ok (.iconst 0, 1) := by decide +kernel
theorem d_M_undo_2 : decode b_M_undo 2 = .ok (.putfield 47, 3) := by decide +kernel
theorem d_M_undo_5 : decode b_M_undo 5 = .ok (.aload_n 0, 1) := by decide +kernel
theorem d_M_undo_6 : decode b_M_undo 6 = .ok (.getfield 98, 3) := by decide +kernel
theorem d_M_undo_9 : decode b_M_undo 9 = .ok (.ifCond .ne 6, 3) := by decide +kernel
theorem d_M_undo_12 : decode b_M_undo 12 = .ok (.bipush (-3), 2) := by decide +kernel
theorem d_M_undo_14 : decode b_M_undo 14 = .ok (.ireturn, 1) := by decide +kernel
theorem d_M_undo_15 : decode b_M_undo 15 = .ok (.aload_n 0, 1) := by decide +kernel
theorem d_M_undo_16 : decode b_M_undo 16 = .ok (.dup, 1) := by decide +kernel
theorem d_M_undo_17 : decode b_M_undo 17 = .ok (.getfield 98, 3) := by decide +kernel
theorem d_M_undo_20 : decode b_M_undo 20 = .ok (.iconst 1, 1) := by decide +kernel
theorem d_M_undo_21 : decode b_M_undo 21 = .ok (.isub, 1) := by decide +kernel
theorem d_M_undo_22 : decode b_M_undo 22 = .ok (.putfield 98, 3) := by decide +kernel
theorem d_M_undo_25 : decode b_M_undo 25 = .ok (.iconst 0, 1) := by decide +kernel
theorem d_M_undo_26 : decode b_M_undo 26 = .ok (.istore_n 1, 1) := by decide +kernel
theorem d_M_undo_27 : decode b_M_undo 27 = .ok (.iload_n 1, 1) := by decide +kernel
theorem d_M_undo_28 : decode b_M_undo 28 = .ok (.bipush 57, 2) := by decide +kernel
theorem d_M_undo_30 : decode b_M_undo 30 = .ok (.if_icmp .ge 29, 3) := by decide +kernel
theorem d_M_undo_33 : decode b_M_undo 33 = .ok (.aload_n 0, 1) := by decide +kernel
theorem d_M_undo_34 : decode b_M_undo 34 = .ok (.getfield 25, 3) := by decide +kernel
theorem d_M_undo_37 : decode b_M_undo 37 = .ok (.iload_n 1, 1) := by decide +kernel
theorem d_M_undo_38 : decode b_M_undo 38 = .ok (.aload_n 0, 1) := by decide +kernel
theorem d_M_undo_39 : decode b_M_undo 39 = .ok (.getfield 31, 3) := by decide +kernel
theorem d_M_undo_42 : decode b_M_undo 42 = .ok (.bipush 57, 2) := by decide +kernel
theorem d_M_undo_44 : decode b_M_undo 44 = .ok (.aload_n 0, 1) := by decide +kernel
theorem d_M_undo_45 : decode b_M_undo 45 = .ok (.getfield 98, 3) := by decide +kernel
theorem d_M_undo_48 : decode b_M_undo 48 = .ok (.imul, 1) := by decide +kernel
theorem d_M_undo_49 : decode b_M_undo 49 = .ok (.iload_n 1, 1) := by decide +kernel
theorem d_M_undo_50 : decode b_M_undo 50 = .ok (.iadd, 1) := by decide +kernel
theorem d_M_undo_51 : decode b_M_undo 51 = .ok (.iaload, 1) := by decide +kernel
theorem d_M_undo_52 : decode b_M_undo 52 = .ok (.iastore, 1) := by decide +kernel
theorem d_M_undo_53 : decode b_M_undo 53 = .ok (.iinc 1 1, 3) := by decide +kernel
theorem d_M_undo_56 : decode b_M_undo 56 = .ok (.goto (-29), 3) := by decide +kernel
theorem d_M_undo_59 : decode b_M_undo 59 = .ok (.aload_n 0, 1) := by decide +kernel
theorem d_M_undo_60 : decode b_M_undo 60 = .ok (.getfield 98, 3) := by decide +kernel
theorem d_M_undo_63 : decode b_M_undo 63 = .ok (.ireturn, 1) := by decide +kernel
abbrev b_M_begin : ByteArray := prog_5_method_36_code
def y_M_begin : MethodName := ⟨R_M, "begin", "()V"⟩
theorem mc_M_begin : Cond.code y_M_begin b_M_begin 2 none ∈ lw_use := g_use (List.mem_of_getElem? (i := 724) (by decide +kernel)) rfl
theorem d_M_begin_0 : decode b_M_begin 0 = .ok (.iconst 0, 1) := by decide +kernel
theorem d_M_begin_1 : decode b_M_begin 1 = .ok (.istore_n 1, 1) := by decide +kernel
theorem d_M_begin_2 : decode b_M_begin 2 = .ok (.iload_n 1, 1) := by decide +kernel
theorem d_M_begin_3 : decode b_M_begin 3 = .ok (.bipush 57, 2) := by decide +kernel
theorem d_M_begin_5 : decode b_M_begin 5 = .ok (.if_icmp .ge 21, 3) := by decide +kernel
theorem d_M_begin_8 : decode b_M_begin 8 = .ok (.aload_n 0, 1) := by decide +kernel
theorem d_M_begin_9 : decode b_M_begin 9 = .ok (.getfield 28, 3) := by decide +kernel
theorem d_M_begin_12 : decode b_M_begin 12 = .ok (.iload_n 1, 1) := by decide +kernel
theorem d_M_begin_13 : decode b_M_begin 13 = .ok (.aload_n 0, 1) := by decide +kernel
theorem d_M_begin_14 : decode b_M_begin 14 = .ok (.getfield 25, 3) := by decide +kernel
theorem d_M_begin_17 : decode b_M_begin 17 = .ok (.iload_n 1, 1) := by decide +kernel
theorem d_M_begin_18 : decode b_M_begin 18 = .ok (.iaload, 1) := by decide +kernel
theorem d_M_begin_19 : decode b_M_begin 19 = .ok (.iastore, 1) := by decide +kernel
theorem d_M_begin_20 : decode b_M_begin 20 = .ok (.iinc 1 1, 3) := by decide +kernel
theorem d_M_begin_23 : decode b_M_begin 23 = .ok (.goto (-21), 3) := by decide +kernel
theorem d_M_begin_26 : decode b_M_begin 26 = .ok (.return_, 1) := by decide +kernel
abbrev b_M_breaks : ByteArray := prog_5_method_37_code
def y_M_breaks : MethodName := ⟨R_M, "breaks", "(I)I"⟩
theorem mc_M_breaks : Cond.code y_M_breaks b_M_breaks 2 (Option.some .int) ∈ lw_use := g_use (List.mem_of_getElem? (i := 675) (by decide +kernel)) rfl
theorem d_M_breaks_0 : decode b_M_breaks 0 = .ok (.aload_n 0, 1) := by decide +kernel
theorem d_M_breaks_1 : decode b_M_breaks 1 = .ok (.iconst 0, 1) := by decide +kernel
theorem d_M_breaks_2 : decode b_M_breaks 2 = .ok (.putfield 47, 3) := by decide +kernel
theorem d_M_breaks_5 : decode b_M_breaks 5 = .ok (.iload_n 1, 1) := by decide +kernel
theorem d_M_breaks_6 : decode b_M_breaks 6 = .ok (.invokestatic 119, 3) := by decide +kernel
theorem d_M_breaks_9 : decode b_M_breaks 9 = .ok (.ifCond .eq 8, 3) := by decide +kernel
theorem d_M_breaks_12 : decode b_M_breaks 12 = .ok (.bipush (-2), 2) := by decide +kernel
theorem d_M_breaks_14 : decode b_M_breaks 14 = .ok (.goto 12, 3) := by decide +kernel
theorem d_M_breaks_17 : decode b_M_breaks 17 = .ok (.aload_n 0, 1) := by decide +kernel
theorem d_M_breaks_18 : decode b_M_breaks 18 = .ok (.aload_n 0, 1) := by decide +kernel
theorem d_M_breaks_19 : decode b_M_breaks 19 = .ok (.getfield 25, 3) := by decide +kernel
theorem d_M_breaks_22 : decode b_M_breaks 22 = .ok (.iload_n 1, 1) := by decide +kernel
theorem d_M_breaks_23 : decode b_M_breaks 23 = .ok (.invokevirtual 105, 3) := by decide +kernel
theorem d_M_breaks_26 : decode b_M_breaks 26 = .ok (.ireturn, 1) := by decide +kernel
abbrev b_M_drowns : ByteArray := prog_5_method_38_code
def y_M_drowns : MethodName := ⟨R_M, "drowns", "(I)I"⟩
theorem mc_M_drowns : Cond.code y_M_drowns b_M_drowns 2 (Option.some .int) ∈ lw_use := g_use (List.mem_of_getElem? (i := 679) (by decide +kernel)) rfl
theorem d_M_drowns_0 : decode b_M_drowns 0 = .ok (.aload_n 0, 1) := by decide +kernel
theorem d_M_drowns_1 : decode b_M_drowns 1 = .ok (.iconst 0, 1) := by decide +kernel
theorem d_M_drowns_2 : decode b_M_drowns 2 = .ok (.putfield 47, 3) := by decide +kernel
theorem d_M_drowns_5 : decode b_M_drowns 5 = .ok (.iload_n 1, 1) := by decide +kernel
theorem d_M_drowns_6 : decode b_M_drowns 6 = .ok (.invokestatic 119, 3) := by decide +kernel
theorem d_M_drowns_9 : decode b_M_drowns 9 = .ok (.ifCond .eq 8, 3) := by decide +kernel
theorem d_M_drowns_12 : decode b_M_drowns 12 = .ok (.bipush (-2), 2) := by decide +kernel
theorem d_M_drowns_14 : decode b_M_drowns 14 = .ok (.goto 20, 3) := by decide +kernel
theorem d_M_drowns_17 : decode b_M_drowns 17 = .ok (.aload_n 0, 1) := by decide +kernel
theorem d_M_drowns_18 : decode b_M_drowns 18 = .ok (.aload_n 0, 1) := by decide +kernel
theorem d_M_drowns_19 : decode b_M_drowns 19 = .ok (.getfield 25, 3) := by decide +kernel
theorem d_M_drowns_22 : decode b_M_drowns 22 = .ok (.aload_n 0, 1) := by decide +kernel
theorem d_M_drowns_23 : decode b_M_drowns 23 = .ok (.aload_n 0, 1) := by decide +kernel
theorem d_M_drowns_24 : decode b_M_drowns 24 = .ok (.getfield 25, 3) := by decide +kernel
theorem d_M_drowns_27 : decode b_M_drowns 27 = .ok (.iload_n 1, 1) := by decide +kernel
theorem d_M_drowns_28 : decode b_M_drowns 28 = .ok (.invokevirtual 105, 3) := by decide +kernel
theorem d_M_drowns_31 : decode b_M_drowns 31 = .ok (.invokevirtual 128, 3) := by decide +kernel
theorem d_M_drowns_34 : decode b_M_drowns 34 = .ok (.ireturn, 1) := by decide +kernel
abbrev b_M_loss : ByteArray := prog_5_method_39_code
def y_M_loss : MethodName := ⟨R_M, "loss", "(I)I"⟩
theorem mc_M_loss : Cond.code y_M_loss b_M_loss 2 (Option.some .int) ∈ lw_use := g_use (List.mem_of_getElem? (i := 683) (by decide +kernel)) rfl
theorem d_M_loss_0 : decode b_M_loss 0 = .ok (.aload_n 0, 1) := by decide +kernel
theorem d_M_loss_1 : decode b_M_loss 1 = .ok (.iconst 0, 1) := by decide +kernel
theorem d_M_loss_2 : decode b_M_loss 2 = .ok (.putfield 47, 3) := by decide +kernel
theorem d_M_loss_5 : decode b_M_loss 5 = .ok (.iload_n 1, 1) := by decide +kernel
theorem d_M_loss_6 : decode b_M_loss 6 = .ok (.invokestatic 119, 3) := by decide +kernel
theorem d_M_loss_9 : decode b_M_loss 9 = .ok (.ifCond .eq 8, 3) := by decide +kernel
theorem d_M_loss_12 : decode b_M_loss 12 = .ok (.bipush (-2), 2) := by decide +kernel
theorem d_M_loss_14 : decode b_M_loss 14 = .ok (.goto 24, 3) := by decide +kernel
theorem d_M_loss_17 : decode b_M_loss 17 = .ok (.aload_n 0, 1) := by decide +kernel
theorem d_M_loss_18 : decode b_M_loss 18 = .ok (.aload_n 0, 1) := by decide +kernel
theorem d_M_loss_19 : decode b_M_loss 19 = .ok (.aload_n 0, 1) := by decide +kernel
theorem d_M_loss_20 : decode b_M_loss 20 = .ok (.getfield 25, 3) := by decide +kernel
theorem d_M_loss_23 : decode b_M_loss 23 = .ok (.aload_n 0, 1) := by decide +kernel
theorem d_M_loss_24 : decode b_M_loss 24 = .ok (.aload_n 0, 1) := by decide +kernel
theorem d_M_loss_25 : decode b_M_loss 25 = .ok (.getfield 25, 3) := by decide +kernel
theorem d_M_loss_28 : decode b_M_loss 28 = .ok (.iload_n 1, 1) := by decide +kernel
theorem d_M_loss_29 : decode b_M_loss 29 = .ok (.invokevirtual 105, 3) := by decide +kernel
theorem d_M_loss_32 : decode b_M_loss 32 = .ok (.invokevirtual 128, 3) := by decide +kernel
theorem d_M_loss_35 : decode b_M_loss 35 = .ok (.invokevirtual 131, 3) := by decide +kernel
theorem d_M_loss_38 : decode b_M_loss 38 = .ok (.ireturn, 1) := by decide +kernel
abbrev b_M_clayFor : ByteArray := prog_5_method_40_code
def y_M_clayFor : MethodName := ⟨R_M, "clayFor", "(II)I"⟩
theorem mc_M_clayFor : Cond.code y_M_clayFor b_M_clayFor 6 (Option.some .int) ∈ lw_use := g_use (List.mem_of_getElem? (i := 691) (by decide +kernel)) rfl
theorem d_M_clayFor_0 : decode b_M_clayFor 0 = .ok (.iconst 0, 1) := by decide +kernel
theorem d_M_clayFor_1 : decode b_M_clayFor 1 = .ok (.istore_n 3, 1) := by decide +kernel
theorem d_M_clayFor_2 : decode b_M_clayFor 2 = .ok (.iconst 0, 1) := by decide +kernel
theorem d_M_clayFor_3 : decode b_M_clayFor 3 = .ok (.istore 4, 2) := by decide +kernel
theorem d_M_clayFor_5 : decode b_M_clayFor 5 = .ok (.iload 4, 2) := by decide +kernel
theorem d_M_clayFor_7 : decode b_M_clayFor 7 = .ok (.aload_n 0, 1) := by decide +kernel
theorem d_M_clayFor_8 : decode b_M_clayFor 8 = .ok (.getfield 51, 3) := by decide +kernel
theorem d_M_clayFor_11 : decode b_M_clayFor 11 = .ok (.if_icmp .ge 46, 3) := by decide +kernel
theorem d_M_clayFor_14 : decode b_M_clayFor 14 = .ok (.iload_n 2, 1) := by decide +kernel
theorem d_M_clayFor_15 : decode b_M_clayFor 15 = .ok (.aload_n 0, 1) := by decide +kernel
theorem d_M_clayFor_16 : decode b_M_clayFor 16 = .ok (.aload_n 0, 1) := by decide +kernel
theorem d_M_clayFor_17 : decode b_M_clayFor 17 = .ok (.getfield 25, 3) := by decide +kernel
theorem d_M_clayFor_20 : decode b_M_clayFor 20 = .ok (.iload 4, 2) := by decide +kernel
theorem d_M_clayFor_22 : decode b_M_clayFor 22 = .ok (.invokevirtual 101, 3) := by decide +kernel
theorem d_M_clayFor_25 : decode b_M_clayFor 25 = .ok (.isub, 1) := by decide +kernel
theorem d_M_clayFor_26 : decode b_M_clayFor 26 = .ok (.istore 5, 2) := by decide +kernel
theorem d_M_clayFor_28 : decode b_M_clayFor 28 = .ok (.iload_n 3, 1) := by decide +kernel
theorem d_M_clayFor_29 : decode b_M_clayFor 29 = .ok (.iload_n 1, 1) := by decide +kernel
theorem d_M_clayFor_30 : decode b_M_clayFor 30 = .ok (.iload 4, 2) := by decide +kernel
theorem d_M_clayFor_32 : decode b_M_clayFor 32 = .ok (.invokestatic 78, 3) := by decide +kernel
theorem d_M_clayFor_35 : decode b_M_clayFor 35 = .ok (.ifCond .eq 13, 3) := by decide +kernel
theorem d_M_clayFor_38 : decode b_M_clayFor 38 = .ok (.iload 5, 2) := by decide +kernel
theorem d_M_clayFor_40 : decode b_M_clayFor 40 = .ok (.ifCond .le 8, 3) := by decide +kernel
theorem d_M_clayFor_43 : decode b_M_clayFor 43 = .ok (.iload 5, 2) := by decide +kernel
theorem d_M_clayFor_45 : decode b_M_clayFor 45 = .ok (.goto 4, 3) := by decide +kernel
theorem d_M_clayFor_48 : decode b_M_clayFor 48 = .ok (.iconst 0, 1) := by decide +kernel
theorem d_M_clayFor_49 : decode b_M_clayFor 49 = .ok (.iadd, 1) := by decide +kernel
theorem d_M_clayFor_50 : decode b_M_clayFor 50 = .ok (.istore_n 3, 1) := by decide +kernel
theorem d_M_clayFor_51 : decode b_M_clayFor 51 = .ok (.iinc 4 1, 3) := by decide +kernel
theorem d_M_clayFor_54 : decode b_M_clayFor 54 = .ok (.goto (-49), 3) := by decide +kernel
theorem d_M_clayFor_57 : decode b_M_clayFor 57 = .ok (.iload_n 3, 1) := by decide +kernel
theorem d_M_clayFor_58 : decode b_M_clayFor 58 = .ok (.ireturn, 1) := by decide +kernel
abbrev b_M_needs : ByteArray := prog_5_method_41_code
def y_M_needs : MethodName := ⟨R_M, "needs", "(I)I"⟩
theorem mc_M_needs : Cond.code y_M_needs b_M_needs 2 (Option.some .int) ∈ lw_use := g_use (List.mem_of_getElem? (i := 687) (by decide +kernel)) rfl
theorem d_M_needs_0 : decode b_M_needs 0 = .ok (.aload_n 0, 1) := by decide +kernel
theorem d_M_needs_1 : decode b_M_needs 1 = .ok (.iconst 0, 1) := by decide +kernel
theorem d_M_needs_2 : decode b_M_needs 2 = .ok (.putfield 47, 3) := by decide +kernel
theorem d_M_needs_5 : decode b_M_needs 5 = .ok (.iload_n 1, 1) := by decide +kernel
theorem d_M_needs_6 : decode b_M_needs 6 = .ok (.invokestatic 119, 3) := by decide +kernel
theorem d_M_needs_9 : decode b_M_needs 9 = .ok (.ifCond .eq 8, 3) := by decide +kernel
theorem d_M_needs_12 : decode b_M_needs 12 = .ok (.bipush (-2), 2) := by decide +kernel
theorem d_M_needs_14 : decode b_M_needs 14 = .ok (.goto 12, 3) := by decide +kernel
theorem d_M_needs_17 : decode b_M_needs 17 = .ok (.aload_n 0, 1) := by decide +kernel
theorem d_M_needs_18 : decode b_M_needs 18 = .ok (.aload_n 0, 1) := by decide +kernel
theorem d_M_needs_19 : decode b_M_needs 19 = .ok (.invokevirtual 108, 3) := by decide +kernel
theorem d_M_needs_22 : decode b_M_needs 22 = .ok (.iload_n 1, 1) := by decide +kernel
theorem d_M_needs_23 : decode b_M_needs 23 = .ok (.invokevirtual 134, 3) := by decide +kernel
theorem d_M_needs_26 : decode b_M_needs 26 = .ok (.ireturn, 1) := by decide +kernel
abbrev b_M_findPlacing : ByteArray := prog_5_method_42_code
def y_M_findPlacing : MethodName := ⟨R_M, "findPlacing", "(II)V"⟩
theorem mc_M_findPlacing : Cond.code y_M_findPlacing b_M_findPlacing 10 none ∈ lw_use := g_use (List.mem_of_getElem? (i := 700) (by decide +kernel)) rfl
theorem d_M_findPlacing_0 : decode b_M_findPlacing 0 = .ok (.aload_n 0, 1) := by decide +kernel
theorem d_M_findPlacing_1 : decode b_M_findPlacing 1 = .ok (.aload_n 0, 1) := by decide +kernel
theorem d_M_findPlacing_2 : decode b_M_findPlacing 2 = .ok (.getfield 25, 3) := by decide +kernel
theorem d_M_findPlacing_5 : decode b_M_findPlacing 5 = .ok (.iload_n 2, 1) := by decide +kernel
theorem d_M_findPlacing_6 : decode b_M_findPlacing 6 = .ok (.invokevirtual 105, 3) := by decide +kernel
theorem d_M_findPlacing_9 : decode b_M_findPlacing 9 = .ok (.istore_n 3, 1) := by decide +kernel
theorem d_M_findPlacing_10 : decode b_M_findPlacing 10 = .ok (.sipush 9999, 3) := by decide +kernel
theorem d_M_findPlacing_13 : decode b_M_findPlacing 13 = .ok (.istore 4, 2) := by decide +kernel
theorem d_M_findPlacing_15 : decode b_M_findPlacing 15 = .ok (.aload_n 0, 1) := by decide +kernel
theorem d_M_findPlacing_16 : decode b_M_findPlacing 16 = .ok (.sipush 9999, 3) := by decide +kernel
theorem d_M_findPlacing_19 : decode b_M_findPlacing 19 = .ok (.putfield 137, 3) := by decide +kernel
theorem d_M_findPlacing_22 : decode b_M_findPlacing 22 = .ok (.aload_n 0, 1) := by decide +kernel
theorem d_M_findPlacing_23 : decode b_M_findPlacing 23 = .ok (.bipush (-9), 2) := by decide +kernel
theorem d_M_findPlacing_25 : decode b_M_findPlacing 25 = .ok (.putfield 140, 3) := by decide +kernel
theorem d_M_findPlacing_28 : decode b_M_findPlacing 28 = .ok (.iconst 0, 1) := by decide +kernel
theorem d_M_findPlacing_29 : decode b_M_findPlacing 29 = .ok (.istore 5, 2) := by decide +kernel
theorem d_M_findPlacing_31 : decode b_M_findPlacing 31 = .ok (.iload 5, 2) := by decide +kernel
theorem d_M_findPlacing_33 : decode b_M_findPlacing 33 = .ok (.aload_n 0, 1) := by decide +kernel
theorem d_M_findPlacing_34 : decode b_M_findPlacing 34 = .ok (.invokevirtual 108, 3) := by decide +kernel
theorem d_M_findPlacing_37 : decode b_M_findPlacing 37 = .ok (.if_icmp .gt 138, 3) := by decide +kernel
theorem d_M_findPlacing_40 : decode b_M_findPlacing 40 = .ok (.aload_n 0, 1) := by decide +kernel
theorem d_M_findPlacing_41 : decode b_M_findPlacing 41 = .ok (.iload 5, 2) := by decide +kernel
theorem d_M_findPlacing_43 : decode b_M_findPlacing 43 = .ok (.iload_n 2, 1) := by decide +kernel
theorem d_M_findPlacing_44 : decode b_M_findPlacing 44 = .ok (.invokevirtual 134, 3) := by decide +kernel
theorem d_M_findPlacing_47 : decode b_M_findPlacing 47 = .ok (.istore 6, 2) := by decide +kernel
theorem d_M_findPlacing_49 : decode b_M_findPlacing 49 = .ok (.iload 5, 2) := by decide +kernel
theorem d_M_findPlacing_51 : decode b_M_findPlacing 51 = .ok (.iload_n 3, 1) := by decide +kernel
theorem d_M_findPlacing_52 : decode b_M_findPlacing 52 = .ok (.iconst (-1), 1) := by decide +kernel
theorem d_M_findPlacing_53 : decode b_M_findPlacing 53 = .ok (.ixor, 1) := by decide +kernel
theorem d_M_findPlacing_54 : decode b_M_findPlacing 54 = .ok (.iand, 1) := by decide +kernel
theorem d_M_findPlacing_55 : decode b_M_findPlacing 55 = .ok (.ifCond .ne 114, 3) := by decide +kernel
theorem d_M_findPlacing_58 : decode b_M_findPlacing 58 = .ok (.iload 6, 2) := by decide +kernel
theorem d_M_findPlacing_60 : decode b_M_findPlacing 60 = .ok (.iload_n 1, 1) := by decide +kernel
theorem d_M_findPlacing_61 : decode b_M_findPlacing 61 = .ok (.if_icmp .gt 108, 3) := by decide +kernel
theorem d_M_findPlacing_64 : decode b_M_findPlacing 64 = .ok (.aload_n 0, 1) := by decide +kernel
theorem d_M_findPlacing_65 : decode b_M_findPlacing 65 = .ok (.invokevirtual 108, 3) := by decide +kernel
theorem d_M_findPlacing_68 : decode b_M_findPlacing 68 = .ok (.iload_n 3, 1) := by decide +kernel
theorem d_M_findPlacing_69 : decode b_M_findPlacing 69 = .ok (.iconst (-1), 1) := by decide +kernel
theorem d_M_findPlacing_70 : decode b_M_findPlacing 70 = .ok (.ixor, 1) := by decide +kernel
theorem d_M_findPlacing_71 : decode b_M_findPlacing 71 = .ok (.iand, 1) := by decide +kernel
theorem d_M_findPlacing_72 : decode b_M_findPlacing 72 = .ok (.iload 5, 2) := by decide +kernel
theorem d_M_findPlacing_74 : decode b_M_findPlacing 74 = .ok (.ior, 1) := by decide +kernel
theorem d_M_findPlacing_75 : decode b_M_findPlacing 75 = .ok (.istore 7, 2) := by decide +kernel
theorem d_M_findPlacing_77 : decode b_M_findPlacing 77 = .ok (.aload_n 0, 1) := by decide +kernel
theorem d_M_findPlacing_78 : decode b_M_findPlacing 78 = .ok (.aload_n 0, 1) := by decide +kernel
theorem d_M_findPlacing_79 : decode b_M_findPlacing 79 = .ok (.aload_n 0, 1) := by decide +kernel
theorem d_M_findPlacing_80 : decode b_M_findPlacing 80 = .ok (.getfield 25, 3) := by decide +kernel
theorem d_M_findPlacing_83 : decode b_M_findPlacing 83 = .ok (.aload_n 0, 1) := by decide +kernel
theorem d_M_findPlacing_84 : decode b_M_findPlacing 84 = .ok (.invokevirtual 108, 3) := by decide +kernel
theorem d_M_findPlacing_87 : decode b_M_findPlacing 87 = .ok (.iload 7, 2) := by decide +kernel
theorem d_M_findPlacing_89 : decode b_M_findPlacing 89 = .ok (.iconst (-1), 1) := by decide +kernel
theorem d_M_findPlacing_90 : decode b_M_findPlacing 90 = .ok (.ixor, 1) := by decide +kernel
theorem d_M_findPlacing_91 : decode b_M_findPlacing 91 = .ok (.iand, 1) := by decide +kernel
theorem d_M_findPlacing_92 : decode b_M_findPlacing 92 = .ok (.invokevirtual 128, 3) := by decide +kernel
theorem d_M_findPlacing_95 : decode b_M_findPlacing 95 = .ok (.invokevirtual 131, 3) := by decide +kernel
theorem d_M_findPlacing_98 : decode b_M_findPlacing 98 = .ok (.istore 8, 2) := by decide +kernel
theorem d_M_findPlacing_100 : decode b_M_findPlacing 100 = .ok (.iload 8, 2) := by decide +kernel
theorem d_M_findPlacing_102 : decode b_M_findPlacing 102 = .ok (.aload_n 0, 1) := by decide +kernel
theorem d_M_findPlacing_103 : decode b_M_findPlacing 103 = .ok (.getfield 137, 3) := by decide +kernel
theorem d_M_findPlacing_106 : decode b_M_findPlacing 106 = .ok (.if_icmp .lt 35, 3) := by decide +kernel
theorem d_M_findPlacing_109 : decode b_M_findPlacing 109 = .ok (.iload 8, 2) := by decide +kernel
theorem d_M_findPlacing_111 : decode b_M_findPlacing 111 = .ok (.aload_n 0, 1) := by decide +kernel
theorem d_M_findPlacing_112 : decode b_M_findPlacing 112 = .ok (.getfield 137, 3) := by decide +kernel
theorem d_M_findPlacing_115 : decode b_M_findPlacing 115 = .ok (.if_icmp .ne 30, 3) := by decide +kernel
theorem d_M_findPlacing_118 : decode b_M_findPlacing 118 = .ok (.iload 6, 2) := by decide +kernel
theorem d_M_findPlacing_120 : decode b_M_findPlacing 120 = .ok (.iload 4, 2) := by decide +kernel
theorem d_M_findPlacing_122 : decode b_M_findPlacing 122 = .ok (.if_icmp .lt 19, 3) := by decide +kernel
theorem d_M_findPlacing_125 : decode b_M_findPlacing 125 = .ok (.iload 6, 2) := by decide +kernel
theorem d_M_findPlacing_127 : decode b_M_findPlacing 127 = .ok (.iload 4, 2) := by decide +kernel
theorem d_M_findPlacing_129 : decode b_M_findPlacing 129 = .ok (.if_icmp .ne 16, 3) := by decide +kernel
theorem d_M_findPlacing_132 : decode b_M_findPlacing 132 = .ok (.iload 7, 2) := by decide +kernel
theorem d_M_findPlacing_134 : decode b_M_findPlacing 134 = .ok (.aload_n 0, 1) := by decide +kernel
theorem d_M_findPlacing_135 : decode b_M_findPlacing 135 = .ok (.getfield 140, 3) := by decide +kernel
theorem d_M_findPlacing_138 : decode b_M_findPlacing 138 = .ok (.if_icmp .ge 7, 3) := by decide +kernel
theorem d_M_findPlacing_141 : decode b_M_findPlacing 141 = .ok (.iconst 1, 1) := by decide +kernel
theorem d_M_findPlacing_142 : decode b_M_findPlacing 142 = .ok (.goto 4, 3) := by decide +kernel
theorem d_M_findPlacing_145 : decode b_M_findPlacing 145 = .ok (.iconst 0, 1) := by decide +kernel
theorem d_M_findPlacing_146 : decode b_M_findPlacing 146 = .ok (.istore 9, 2) := by decide +kernel
theorem d_M_findPlacing_148 : decode b_M_findPlacing 148 = .ok (.iload 9, 2) := by decide +kernel
theorem d_M_findPlacing_150 : decode b_M_findPlacing 150 = .ok (.ifCond .eq 19, 3) := by decide +kernel
theorem d_M_findPlacing_153 : decode b_M_findPlacing 153 = .ok (.aload_n 0, 1) := by decide +kernel
theorem d_M_findPlacing_154 : decode b_M_findPlacing 154 = .ok (.iload 8, 2) := by decide +kernel
theorem d_M_findPlacing_156 : decode b_M_findPlacing 156 = .ok (.putfield 137, 3) := by decide +kernel
theorem d_M_findPlacing_159 : decode b_M_findPlacing 159 = .ok (.iload 6, 2) := by decide +kernel
theorem d_M_findPlacing_161 : decode b_M_findPlacing 161 = .ok (.istore 4, 2) := by decide +kernel
theorem d_M_findPlacing_163 : decode b_M_findPlacing 163 = .ok (.aload_n 0, 1) := by decide +kernel
theorem d_M_findPlacing_164 : decode b_M_findPlacing 164 = .ok (.iload 7, 2) := by decide +kernel
theorem d_M_findPlacing_166 : decode b_M_findPlacing 166 = .ok (.putfield 140, 3) := by decide +kernel
theorem d_M_findPlacing_169 : decode b_M_findPlacing 169 = .ok (.iinc 5 1, 3) := by decide +kernel
theorem d_M_findPlacing_172 : decode b_M_findPlacing 172 = .ok (.goto (-141), 3) := by decide +kernel
theorem d_M_findPlacing_175 : decode b_M_findPlacing 175 = .ok (.return_, 1) := by decide +kernel
abbrev b_M_placing : ByteArray := prog_5_method_43_code
def y_M_placing : MethodName := ⟨R_M, "placing", "(III)I"⟩
theorem mc_M_placing : Cond.code y_M_placing b_M_placing 4 (Option.some .int) ∈ lw_use := g_use (List.mem_of_getElem? (i := 695) (by decide +kernel)) rfl
theorem d_M_placing_0 : decode b_M_placing 0 = .ok (.aload_n 0, 1) := by decide +kernel
theorem d_M_placing_1 : decode b_M_placing 1 = .ok (.iconst 0, 1) := by decide +kernel
theorem d_M_placing_2 : decode b_M_placing 2 = .ok (.putfield 47, 3) := by decide +kernel
theorem d_M_placing_5 : decode b_M_placing 5 = .ok (.iload_n 1, 1) := by decide +kernel
theorem d_M_placing_6 : decode b_M_placing 6 = .ok (.i2l, 1) := by decide +kernel
theorem d_M_placing_7 : decode b_M_placing 7 = .ok (.lconst 0, 1) := by decide +kernel
theorem d_M_placing_8 : decode b_M_placing 8 = .ok (.ldc2_w 143, 3) := by decide +kernel
theorem d_M_placing_11 : decode b_M_placing 11 = .ok (.invokestatic 54, 3) := by decide +kernel
theorem d_M_placing_14 : decode b_M_placing 14 = .ok (.ifCond .eq 20, 3) := by decide +kernel
theorem d_M_placing_17 : decode b_M_placing 17 = .ok (.iload_n 2, 1) := by decide +kernel
theorem d_M_placing_18 : decode b_M_placing 18 = .ok (.invokestatic 119, 3) := by decide +kernel
theorem d_M_placing_21 : decode b_M_placing 21 = .ok (.ifCond .ne 13, 3) := by decide +kernel
theorem d_M_placing_24 : decode b_M_placing 24 = .ok (.iload_n 3, 1) := by decide +kernel
theorem d_M_placing_25 : decode b_M_placing 25 = .ok (.i2l, 1) := by decide +kernel
theorem d_M_placing_26 : decode b_M_placing 26 = .ok (.lconst 0, 1) := by decide +kernel
theorem d_M_placing_27 : decode b_M_placing 27 = .ok (.lconst 1, 1) := by decide +kernel
theorem d_M_placing_28 : decode b_M_placing 28 = .ok (.invokestatic 54, 3) := by decide +kernel
theorem d_M_placing_31 : decode b_M_placing 31 = .ok (.ifCond .ne 6, 3) := by decide +kernel
theorem d_M_placing_34 : decode b_M_placing 34 = .ok (.bipush (-2), 2) := by decide +kernel
theorem d_M_placing_36 : decode b_M_placing 36 = .ok (.ireturn, 1) := by decide +kernel
theorem d_M_placing_37 : decode b_M_placing 37 = .ok (.aload_n 0, 1) := by decide +kernel
theorem d_M_placing_38 : decode b_M_placing 38 = .ok (.iload_n 1, 1) := by decide +kernel
theorem d_M_placing_39 : decode b_M_placing 39 = .ok (.iload_n 2, 1) := by decide +kernel
theorem d_M_placing_40 : decode b_M_placing 40 = .ok (.invokevirtual 145, 3) := by decide +kernel
theorem d_M_placing_43 : decode b_M_placing 43 = .ok (.iload_n 3, 1) := by decide +kernel
theorem d_M_placing_44 : decode b_M_placing 44 = .ok (.ifCond .ne 10, 3) := by decide +kernel
theorem d_M_placing_47 : decode b_M_placing 47 = .ok (.aload_n 0, 1) := by decide +kernel
theorem d_M_placing_48 : decode b_M_placing 48 = .ok (.getfield 137, 3) := by decide +kernel
theorem d_M_placing_51 : decode b_M_placing 51 = .ok (.goto 7, 3) := by decide +kernel
theorem d_M_placing_54 : decode b_M_placing 54 = .ok (.aload_n 0, 1) := by decide +kernel
theorem d_M_placing_55 : decode b_M_placing 55 = .ok (.getfield 140, 3) := by decide +kernel
theorem d_M_placing_58 : decode b_M_placing 58 = .ok (.ireturn, 1) := by decide +kernel
abbrev b_M_all : ByteArray := prog_5_method_44_code
def y_M_all : MethodName := ⟨R_M, "all", "()I"⟩
theorem mc_M_all : Cond.code y_M_all b_M_all 5 (Option.some .int) ∈ lw_use := g_use (List.mem_of_getElem? (i := 704) (by decide +kernel)) rfl
theorem d_M_all_0 : decode b_M_all 0 = .ok (.aload_n 0, 1) := by decide +kernel
theorem d_M_all_1 : decode b_M_all 1 = .ok (.iconst 0, 1) := by decide +kernel
theorem d_M_all_2 : decode b_M_all 2 = .ok (.putfield 47, 3) := by decide +kernel
theorem d_M_all_5 : decode b_M_all 5 = .ok (.bipush (-9), 2) := by decide +kernel
theorem d_M_all_7 : decode b_M_all 7 = .ok (.istore_n 1, 1) := by decide +kernel
theorem d_M_all_8 : decode b_M_all 8 = .ok (.bipush (-9), 2) := by decide +kernel
theorem d_M_all_10 : decode b_M_all 10 = .ok (.istore_n 2, 1) := by decide +kernel
theorem d_M_all_11 : decode b_M_all 11 = .ok (.iconst 0, 1) := by decide +kernel
theorem d_M_all_12 : decode b_M_all 12 = .ok (.istore_n 3, 1) := by decide +kernel
theorem d_M_all_13 : decode b_M_all 13 = .ok (.iload_n 3, 1) := by decide +kernel
theorem d_M_all_14 : decode b_M_all 14 = .ok (.aload_n 0, 1) := by decide +kernel
theorem d_M_all_15 : decode b_M_all 15 = .ok (.getfield 51, 3) := by decide +kernel
theorem d_M_all_18 : decode b_M_all 18 = .ok (.if_icmp .ge 51, 3) := by decide +kernel
theorem d_M_all_21 : decode b_M_all 21 = .ok (.aload_n 0, 1) := by decide +kernel
theorem d_M_all_22 : decode b_M_all 22 = .ok (.aload_n 0, 1) := by decide +kernel
theorem d_M_all_23 : decode b_M_all 23 = .ok (.aload_n 0, 1) := by decide +kernel
theorem d_M_all_24 : decode b_M_all 24 = .ok (.getfield 25, 3) := by decide +kernel
theorem d_M_all_27 : decode b_M_all 27 = .ok (.iconst 1, 1) := by decide +kernel
theorem d_M_all_28 : decode b_M_all 28 = .ok (.iload_n 3, 1) := by decide +kernel
theorem d_M_all_29 : decode b_M_all 29 = .ok (.ishl, 1) := by decide +kernel
theorem d_M_all_30 : decode b_M_all 30 = .ok (.invokevirtual 128, 3) := by decide +kernel
theorem d_M_all_33 : decode b_M_all 33 = .ok (.invokevirtual 131, 3) := by decide +kernel
theorem d_M_all_36 : decode b_M_all 36 = .ok (.istore 4, 2) := by decide +kernel
theorem d_M_all_38 : decode b_M_all 38 = .ok (.iload 4, 2) := by decide +kernel
theorem d_M_all_40 : decode b_M_all 40 = .ok (.iload_n 2, 1) := by decide +kernel
theorem d_M_all_41 : decode b_M_all 41 = .ok (.if_icmp .le 7, 3) := by decide +kernel
theorem d_M_all_44 : decode b_M_all 44 = .ok (.iload_n 3, 1) := by decide +kernel
theorem d_M_all_45 : decode b_M_all 45 = .ok (.goto 4, 3) := by decide +kernel
theorem d_M_all_48 : decode b_M_all 48 = .ok (.iload_n 1, 1) := by decide +kernel
theorem d_M_all_49 : decode b_M_all 49 = .ok (.istore_n 1, 1) := by decide +kernel
theorem d_M_all_50 : decode b_M_all 50 = .ok (.iload 4, 2) := by decide +kernel
theorem d_M_all_52 : decode b_M_all 52 = .ok (.iload_n 2, 1) := by decide +kernel
theorem d_M_all_53 : decode b_M_all 53 = .ok (.if_icmp .le 8, 3) := by decide +kernel
theorem d_M_all_56 : decode b_M_all 56 = .ok (.iload 4, 2) := by decide +kernel
theorem d_M_all_58 : decode b_M_all 58 = .ok (.goto 4, 3) := by decide +kernel
theorem d_M_all_61 : decode b_M_all 61 = .ok (.iload_n 2, 1) := by decide +kernel
theorem d_M_all_62 : decode b_M_all 62 = .ok (.istore_n 2, 1) := by decide +kernel
theorem d_M_all_63 : decode b_M_all 63 = .ok (.iinc 3 1, 3) := by decide +kernel
theorem d_M_all_66 : decode b_M_all 66 = .ok (.goto (-53), 3) := by decide +kernel
theorem d_M_all_69 : decode b_M_all 69 = .ok (.iload_n 1, 1) := by decide +kernel
theorem d_M_all_70 : decode b_M_all 70 = .ok (.ireturn, 1) := by decide +kernel
abbrev b_M_hundred : ByteArray := prog_5_method_45_code
def y_M_hundred : MethodName := ⟨R_M, "hundred", "(I)J"⟩
theorem mc_M_hundred : Cond.code y_M_hundred b_M_hundred 4 (Option.some .long) ∈ lw_use := g_use (List.mem_of_getElem? (i := 715) (by decide +kernel)) rfl
theorem d_M_hundred_0 : decode b_M_hundred 0 = .ok (.lconst 1, 1) := by decide +kernel
theorem d_M_hundred_1 : decode b_M_hundred 1 = .ok (.lstore_n 1, 1) := by decide +kernel
theorem d_M_hundred_2 : decode b_M_hundred 2 = .ok (.iconst 0, 1) := by decide +kernel
theorem d_M_hundred_3 : decode b_M_hundred 3 = .ok (.istore_n 3, 1) := by decide +kernel
theorem d_M_hundred_4 : decode b_M_hundred 4 = .ok (.iload_n 3, 1) := by decide +kernel
theorem d_M_hundred_5 : decode b_M_hundred 5 = .ok (.iload_n 0, 1) := by decide +kernel
theorem d_M_hundred_6 : decode b_M_hundred 6 = .ok (.if_icmp .ge 15, 3) := by decide +kernel
theorem d_M_hundred_9 : decode b_M_hundred 9 = .ok (.lload_n 1, 1) := by decide +kernel
theorem d_M_hundred_10 : decode b_M_hundred 10 = .ok (.ldc2_w 149, 3) := by decide +kernel
theorem d_M_hundred_13 : decode b_M_hundred 13 = .ok (.lmul, 1) := by decide +kernel
theorem d_M_hundred_14 : decode b_M_hundred 14 = .ok (.lstore_n 1, 1) := by decide +kernel
theorem d_M_hundred_15 : decode b_M_hundred 15 = .ok (.iinc 3 1, 3) := by decide +kernel
theorem d_M_hundred_18 : decode b_M_hundred 18 = .ok (.goto (-14), 3) := by decide +kernel
theorem d_M_hundred_21 : decode b_M_hundred 21 = .ok (.lload_n 1, 1) := by decide +kernel
theorem d_M_hundred_22 : decode b_M_hundred 22 = .ok (.lreturn, 1) := by decide +kernel
abbrev b_M_stormOf : ByteArray := prog_5_method_46_code
def y_M_stormOf : MethodName := ⟨R_M, "stormOf", "(IJI)I"⟩
theorem mc_M_stormOf : Cond.code y_M_stormOf b_M_stormOf 4 (Option.some .int) ∈ lw_use := g_use (List.mem_of_getElem? (i := 719) (by decide +kernel)) rfl
theorem d_M_stormOf_0 : decode b_M_stormOf 0 = .ok (.lload_n 1, 1) := by decide +kernel
theorem d_M_stormOf_1 : decode b_M_stormOf 1 = .ok (.iload_n 0, 1) := by decide +kernel
theorem d_M_stormOf_2 : decode b_M_stormOf 2 = .ok (.iconst 1, 1) := by decide +kernel
theorem d_M_stormOf_3 : decode b_M_stormOf 3 = .ok (.isub, 1) := by decide +kernel
theorem d_M_stormOf_4 : decode b_M_stormOf 4 = .ok (.iload_n 3, 1) := by decide +kernel
theorem d_M_stormOf_5 : decode b_M_stormOf 5 = .ok (.isub, 1) := by decide +kernel
theorem d_M_stormOf_6 : decode b_M_stormOf 6 = .ok (.invokestatic 151, 3) := by decide +kernel
theorem d_M_stormOf_9 : decode b_M_stormOf 9 = .ok (.ldiv, 1) := by decide +kernel
theorem d_M_stormOf_10 : decode b_M_stormOf 10 = .ok (.ldc2_w 149, 3) := by decide +kernel
theorem d_M_stormOf_13 : decode b_M_stormOf 13 = .ok (.lrem, 1) := by decide +kernel
theorem d_M_stormOf_14 : decode b_M_stormOf 14 = .ok (.l2i, 1) := by decide +kernel
theorem d_M_stormOf_15 : decode b_M_stormOf 15 = .ok (.ireturn, 1) := by decide +kernel
abbrev b_M_noStorms : ByteArray := prog_5_method_47_code
def y_M_noStorms : MethodName := ⟨R_M, "noStorms", "(IJ)Z"⟩
theorem mc_M_noStorms : Cond.code y_M_noStorms b_M_noStorms 5 (Option.some .boolean) ∈ lw_use := g_use (List.mem_of_getElem? (i := 711) (by decide +kernel)) rfl
theorem d_M_noStorms_0 : decode b_M_noStorms 0 = .ok (.iload_n 0, 1) := by decide +kernel
theorem d_M_noStorms_1 : decode b_M_noStorms 1 = .ok (.i2l, 1) := by decide +kernel
theorem d_M_noStorms_2 : decode b_M_noStorms 2 = .ok (.lconst 1, 1) := by decide +kernel
theorem d_M_noStorms_3 : decode b_M_noStorms 3 = .ok (.ldc2_w 155, 3) := by decide +kernel
theorem d_M_noStorms_6 : decode b_M_noStorms 6 = .ok (.invokestatic 54, 3) := by decide +kernel
theorem d_M_noStorms_9 : decode b_M_noStorms 9 = .ok (.ifCond .eq 17, 3) := by decide +kernel
theorem d_M_noStorms_12 : decode b_M_noStorms 12 = .ok (.lload_n 1, 1) := by decide +kernel
theorem d_M_noStorms_13 : decode b_M_noStorms 13 = .ok (.lconst 0, 1) := by decide +kernel
theorem d_M_noStorms_14 : decode b_M_noStorms 14 = .ok (.iload_n 0, 1) := by decide +kernel
theorem d_M_noStorms_15 : decode b_M_noStorms 15 = .ok (.invokestatic 151, 3) := by decide +kernel
theorem d_M_noStorms_18 : decode b_M_noStorms 18 = .ok (.lconst 1, 1) := by decide +kernel
theorem d_M_noStorms_19 : decode b_M_noStorms 19 = .ok (.lsub, 1) := by decide +kernel
theorem d_M_noStorms_20 : decode b_M_noStorms 20 = .ok (.invokestatic 54, 3) := by decide +kernel
theorem d_M_noStorms_23 : decode b_M_noStorms 23 = .ok (.ifCond .ne 5, 3) := by decide +kernel
theorem d_M_noStorms_26 : decode b_M_noStorms 26 = .ok (.iconst 1, 1) := by decide +kernel
theorem d_M_noStorms_27 : decode b_M_noStorms 27 = .ok (.ireturn, 1) := by decide +kernel
theorem d_M_noStorms_28 : decode b_M_noStorms 28 = .ok (.iconst 1, 1) := by decide +kernel
theorem d_M_noStorms_29 : decode b_M_noStorms 29 = .ok (.istore_n 3, 1) := by decide +kernel
theorem d_M_noStorms_30 : decode b_M_noStorms 30 = .ok (.iconst 0, 1) := by decide +kernel
theorem d_M_noStorms_31 : decode b_M_noStorms 31 = .ok (.istore 4, 2) := by decide +kernel
theorem d_M_noStorms_33 : decode b_M_noStorms 33 = .ok (.iload 4, 2) := by decide +kernel
theorem d_M_noStorms_35 : decode b_M_noStorms 35 = .ok (.iload_n 0, 1) := by decide +kernel
theorem d_M_noStorms_36 : decode b_M_noStorms 36 = .ok (.if_icmp .ge 31, 3) := by decide +kernel
theorem d_M_noStorms_39 : decode b_M_noStorms 39 = .ok (.iload_n 3, 1) := by decide +kernel
theorem d_M_noStorms_40 : decode b_M_noStorms 40 = .ok (.ifCond .eq 19, 3) := by decide +kernel
theorem d_M_noStorms_43 : decode b_M_noStorms 43 = .ok (.iload_n 0, 1) := by decide +kernel
theorem d_M_noStorms_44 : decode b_M_noStorms 44 = .ok (.lload_n 1, 1) := by decide +kernel
theorem d_M_noStorms_45 : decode b_M_noStorms 45 = .ok (.iload 4, 2) := by decide +kernel
theorem d_M_noStorms_47 : decode b_M_noStorms 47 = .ok (.invokestatic 157, 3) := by decide +kernel
theorem d_M_noStorms_50 : decode b_M_noStorms 50 = .ok (.bipush 20, 2) := by decide +kernel
theorem d_M_noStorms_52 : decode b_M_noStorms 52 = .ok (.if_icmp .gt 7, 3) := by decide +kernel
theorem d_M_noStorms_55 : decode b_M_noStorms 55 = .ok (.iconst 1, 1) := by decide +kernel
theorem d_M_noStorms_56 : decode b_M_noStorms 56 = .ok (.goto 4, 3) := by decide +kernel
theorem d_M_noStorms_59 : decode b_M_noStorms 59 = .ok (.iconst 0, 1) := by decide +kernel
theorem d_M_noStorms_60 : decode b_M_noStorms 60 = .ok (.istore_n 3, 1) := by decide +kernel
theorem d_M_noStorms_61 : decode b_M_noStorms 61 = .ok (.iinc 4 1, 3) := by decide +kernel
theorem d_M_noStorms_64 : decode b_M_noStorms 64 = .ok (.goto (-31), 3) := by decide +kernel
theorem d_M_noStorms_67 : decode b_M_noStorms 67 = .ok (.iload_n 3, 1) := by decide +kernel
theorem d_M_noStorms_68 : decode b_M_noStorms 68 = .ok (.ifCond .ne 7, 3) := by decide +kernel
theorem d_M_noStorms_71 : decode b_M_noStorms 71 = .ok (.iconst 1, 1) := by decide +kernel
theorem d_M_noStorms_72 : decode b_M_noStorms 72 = .ok (.goto 4, 3) := by decide +kernel
theorem d_M_noStorms_75 : decode b_M_noStorms 75 = .ok (.iconst 0, 1) := by decide +kernel
theorem d_M_noStorms_76 : decode b_M_noStorms 76 = .ok (.ireturn, 1) := by decide +kernel
abbrev b_M_told : ByteArray := prog_5_method_48_code
def y_M_told : MethodName := ⟨R_M, "told", "(IIJI)I"⟩
theorem mc_M_told : Cond.code y_M_told b_M_told 10 (Option.some .int) ∈ lw_use := g_use (List.mem_of_getElem? (i := 708) (by decide +kernel)) rfl
theorem d_M_told_0 : decode b_M_told 0 = .ok (.aload_n 0, 1) := by decide +kernel
theorem d_M_told_1 : decode b_M_told 1 = .ok (.iconst 0, 1) := by decide +kernel
theorem d_M_told_2 : decode b_M_told 2 = .ok (.putfield 47, 3) := by decide +kernel
theorem d_M_told_5 : decode b_M_told 5 = .ok (.aload_n 0, 1) := by decide +kernel
theorem d_M_told_6 : decode b_M_told 6 = .ok (.iload_n 1, 1) := by decide +kernel
theorem d_M_told_7 : decode b_M_told 7 = .ok (.invokevirtual 115, 3) := by decide +kernel
theorem d_M_told_10 : decode b_M_told 10 = .ok (.ifCond .eq 5, 3) := by decide +kernel
theorem d_M_told_13 : decode b_M_told 13 = .ok (.iconst (-1), 1) := by decide +kernel
theorem d_M_told_14 : decode b_M_told 14 = .ok (.ireturn, 1) := by decide +kernel
theorem d_M_told_15 : decode b_M_told 15 = .ok (.iload_n 2, 1) := by decide +kernel
theorem d_M_told_16 : decode b_M_told 16 = .ok (.lload_n 3, 1) := by decide +kernel
theorem d_M_told_17 : decode b_M_told 17 = .ok (.invokestatic 161, 3) := by decide +kernel
theorem d_M_told_20 : decode b_M_told 20 = .ok (.ifCond .ne 16, 3) := by decide +kernel
theorem d_M_told_23 : decode b_M_told 23 = .ok (.iload 5, 2) := by decide +kernel
theorem d_M_told_25 : decode b_M_told 25 = .ok (.i2l, 1) := by decide +kernel
theorem d_M_told_26 : decode b_M_told 26 = .ok (.lconst 0, 1) := by decide +kernel
theorem d_M_told_27 : decode b_M_told 27 = .ok (.ldc2_w 165, 3) := by decide +kernel
theorem d_M_told_30 : decode b_M_told 30 = .ok (.invokestatic 54, 3) := by decide +kernel
theorem d_M_told_33 : decode b_M_told 33 = .ok (.ifCond .ne 6, 3) := by decide +kernel
theorem d_M_told_36 : decode b_M_told 36 = .ok (.bipush (-2), 2) := by decide +kernel
theorem d_M_told_38 : decode b_M_told 38 = .ok (.ireturn, 1) := by decide +kernel
theorem d_M_told_39 : decode b_M_told 39 = .ok (.bipush (-9), 2) := by decide +kernel
theorem d_M_told_41 : decode b_M_told 41 = .ok (.istore 6, 2) := by decide +kernel
theorem d_M_told_43 : decode b_M_told 43 = .ok (.bipush (-9), 2) := by decide +kernel
theorem d_M_told_45 : decode b_M_told 45 = .ok (.istore 7, 2) := by decide +kernel
theorem d_M_told_47 : decode b_M_told 47 = .ok (.aload_n 0, 1) := by decide +kernel
theorem d_M_told_48 : decode b_M_told 48 = .ok (.invokevirtual 167, 3) := by decide +kernel
theorem d_M_told_51 : decode b_M_told 51 = .ok (.iconst 0, 1) := by decide +kernel
theorem d_M_told_52 : decode b_M_told 52 = .ok (.istore 8, 2) := by decide +kernel
theorem d_M_told_54 : decode b_M_told 54 = .ok (.iload 8, 2) := by decide +kernel
theorem d_M_told_56 : decode b_M_told 56 = .ok (.iload_n 2, 1) := by decide +kernel
theorem d_M_told_57 : decode b_M_told 57 = .ok (.if_icmp .ge 72, 3) := by decide +kernel
theorem d_M_told_60 : decode b_M_told 60 = .ok (.aload_n 0, 1) := by decide +kernel
theorem d_M_told_61 : decode b_M_told 61 = .ok (.aload_n 0, 1) := by decide +kernel
theorem d_M_told_62 : decode b_M_told 62 = .ok (.getfield 28, 3) := by decide +kernel
theorem d_M_told_65 : decode b_M_told 65 = .ok (.iload_n 2, 1) := by decide +kernel
theorem d_M_told_66 : decode b_M_told 66 = .ok (.lload_n 3, 1) := by decide +kernel
theorem d_M_told_67 : decode b_M_told 67 = .ok (.iload 8, 2) := by decide +kernel
theorem d_M_told_69 : decode b_M_told 69 = .ok (.invokestatic 157, 3) := by decide +kernel
theorem d_M_told_72 : decode b_M_told 72 = .ok (.invokevirtual 125, 3) := by decide +kernel
theorem d_M_told_75 : decode b_M_told 75 = .ok (.istore 9, 2) := by decide +kernel
theorem d_M_told_77 : decode b_M_told 77 = .ok (.iload 6, 2) := by decide +kernel
theorem d_M_told_79 : decode b_M_told 79 = .ok (.bipush (-9), 2) := by decide +kernel
theorem d_M_told_81 : decode b_M_told 81 = .ok (.if_icmp .ne 13, 3) := by decide +kernel
theorem d_M_told_84 : decode b_M_told 84 = .ok (.iload 9, 2) := by decide +kernel
theorem d_M_told_86 : decode b_M_told 86 = .ok (.ifCond .eq 8, 3) := by decide +kernel
theorem d_M_told_89 : decode b_M_told 89 = .ok (.iload 8, 2) := by decide +kernel
theorem d_M_told_91 : decode b_M_told 91 = .ok (.goto 5, 3) := by decide +kernel
theorem d_M_told_94 : decode b_M_told 94 = .ok (.iload 6, 2) := by decide +kernel
theorem d_M_told_96 : decode b_M_told 96 = .ok (.istore 6, 2) := by decide +kernel
theorem d_M_told_98 : decode b_M_told 98 = .ok (.iload 7, 2) := by decide +kernel
theorem d_M_told_100 : decode b_M_told 100 = .ok (.bipush (-9), 2) := by decide +kernel
theorem d_M_told_102 : decode b_M_told 102 = .ok (.if_icmp .ne 17, 3) := by decide +kernel
theorem d_M_told_105 : decode b_M_told 105 = .ok (.iload 9, 2) := by decide +kernel
theorem d_M_told_107 : decode b_M_told 107 = .ok (.iload_n 1, 1) := by decide +kernel
theorem d_M_told_108 : decode b_M_told 108 = .ok (.invokestatic 78, 3) := by decide +kernel
theorem d_M_told_111 : decode b_M_told 111 = .ok (.ifCond .eq 8, 3) := by decide +kernel
theorem d_M_told_114 : decode b_M_told 114 = .ok (.iload 8, 2) := by decide +kernel
theorem d_M_told_116 : decode b_M_told 116 = .ok (.goto 5, 3) := by decide +kernel
theorem d_M_told_119 : decode b_M_told 119 = .ok (.iload 7, 2) := by decide +kernel
theorem d_M_told_121 : decode b_M_told 121 = .ok (.istore 7, 2) := by decide +kernel
theorem d_M_told_123 : decode b_M_told 123 = .ok (.iinc 8 1, 3) := by decide +kernel
theorem d_M_told_126 : decode b_M_told 126 = .ok (.goto (-72), 3) := by decide +kernel
theorem d_M_told_129 : decode b_M_told 129 = .ok (.iload 5, 2) := by decide +kernel
theorem d_M_told_131 : decode b_M_told 131 = .ok (.ifCond .ne 8, 3) := by decide +kernel
theorem d_M_told_134 : decode b_M_told 134 = .ok (.iload 6, 2) := by decide +kernel
theorem d_M_told_136 : decode b_M_told 136 = .ok (.goto 22, 3) := by decide +kernel
theorem d_M_told_139 : decode b_M_told 139 = .ok (.iload 5, 2) := by decide +kernel
theorem d_M_told_141 : decode b_M_told 141 = .ok (.iconst 1, 1) := by decide +kernel
theorem d_M_told_142 : decode b_M_told 142 = .ok (.if_icmp .ne 8, 3) := by decide +kernel
theorem d_M_told_145 : decode b_M_told 145 = .ok (.iload 7, 2) := by decide +kernel
theorem d_M_told_147 : decode b_M_told 147 = .ok (.goto 11, 3) := by decide +kernel
theorem d_M_told_150 : decode b_M_told 150 = .ok (.aload_n 0, 1) := by decide +kernel
theorem d_M_told_151 : decode b_M_told 151 = .ok (.getfield 28, 3) := by decide +kernel
theorem d_M_told_154 : decode b_M_told 154 = .ok (.iconst 0, 1) := by decide +kernel
theorem d_M_told_155 : decode b_M_told 155 = .ok (.iload_n 1, 1) := by decide +kernel
theorem d_M_told_156 : decode b_M_told 156 = .ok (.iadd, 1) := by decide +kernel
theorem d_M_told_157 : decode b_M_told 157 = .ok (.iaload, 1) := by decide +kernel
theorem d_M_told_158 : decode b_M_told 158 = .ok (.ireturn, 1) := by decide +kernel
abbrev b_M_wet : ByteArray := prog_5_method_49_code
def y_M_wet : MethodName := ⟨R_M, "wet", "(II)I"⟩
theorem mc_M_wet : Cond.code y_M_wet b_M_wet 7 (Option.some .int) ∈ lw_use := g_use (List.mem_of_getElem? (i := 728) (by decide +kernel)) rfl
theorem d_M_wet_0 : decode b_M_wet 0 = .ok (.aload_n 0, 1) := by decide +kernel
theorem d_M_wet_1 : decode b_M_wet 1 = .ok (.iconst 0, 1) := by decide +kernel
theorem d_M_wet_2 : decode b_M_wet 2 = .ok (.putfield 47, 3) := by decide +kernel
theorem d_M_wet_5 : decode b_M_wet 5 = .ok (.iload_n 1, 1) := by decide +kernel
theorem d_M_wet_6 : decode b_M_wet 6 = .ok (.i2l, 1) := by decide +kernel
theorem d_M_wet_7 : decode b_M_wet 7 = .ok (.lconst 0, 1) := by decide +kernel
theorem d_M_wet_8 : decode b_M_wet 8 = .ok (.aload_n 0, 1) := by decide +kernel
theorem d_M_wet_9 : decode b_M_wet 9 = .ok (.invokevirtual 108, 3) := by decide +kernel
theorem d_M_wet_12 : decode b_M_wet 12 = .ok (.i2l, 1) := by decide +kernel
theorem d_M_wet_13 : decode b_M_wet 13 = .ok (.invokestatic 54, 3) := by decide +kernel
theorem d_M_wet_16 : decode b_M_wet 16 = .ok (.ifCond .eq 15, 3) := by decide +kernel
theorem d_M_wet_19 : decode b_M_wet 19 = .ok (.iload_n 2, 1) := by decide +kernel
theorem d_M_wet_20 : decode b_M_wet 20 = .ok (.i2l, 1) := by decide +kernel
theorem d_M_wet_21 : decode b_M_wet 21 = .ok (.lconst 0, 1) := by decide +kernel
theorem d_M_wet_22 : decode b_M_wet 22 = .ok (.ldc2_w 165, 3) := by decide +kernel
theorem d_M_wet_25 : decode b_M_wet 25 = .ok (.invokestatic 54, 3) := by decide +kernel
theorem d_M_wet_28 : decode b_M_wet 28 = .ok (.ifCond .ne 6, 3) := by decide +kernel
theorem d_M_wet_31 : decode b_M_wet 31 = .ok (.bipush (-2), 2) := by decide +kernel
theorem d_M_wet_33 : decode b_M_wet 33 = .ok (.ireturn, 1) := by decide +kernel
theorem d_M_wet_34 : decode b_M_wet 34 = .ok (.iconst 0, 1) := by decide +kernel
theorem d_M_wet_35 : decode b_M_wet 35 = .ok (.istore_n 3, 1) := by decide +kernel
theorem d_M_wet_36 : decode b_M_wet 36 = .ok (.aload_n 0, 1) := by decide +kernel
theorem d_M_wet_37 : decode b_M_wet 37 = .ok (.invokevirtual 108, 3) := by decide +kernel
theorem d_M_wet_40 : decode b_M_wet 40 = .ok (.istore 4, 2) := by decide +kernel
theorem d_M_wet_42 : decode b_M_wet 42 = .ok (.iconst 0, 1) := by decide +kernel
theorem d_M_wet_43 : decode b_M_wet 43 = .ok (.istore 5, 2) := by decide +kernel
theorem d_M_wet_45 : decode b_M_wet 45 = .ok (.iconst 0, 1) := by decide +kernel
theorem d_M_wet_46 : decode b_M_wet 46 = .ok (.istore 6, 2) := by decide +kernel
theorem d_M_wet_48 : decode b_M_wet 48 = .ok (.iload 6, 2) := by decide +kernel
theorem d_M_wet_50 : decode b_M_wet 50 = .ok (.aload_n 0, 1) := by decide +kernel
theorem d_M_wet_51 : decode b_M_wet 51 = .ok (.invokevirtual 108, 3) := by decide +kernel
theorem d_M_wet_54 : decode b_M_wet 54 = .ok (.if_icmp .gt 40, 3) := by decide +kernel
theorem d_M_wet_57 : decode b_M_wet 57 = .ok (.aload_n 0, 1) := by decide +kernel
theorem d_M_wet_58 : decode b_M_wet 58 = .ok (.aload_n 0, 1) := by decide +kernel
theorem d_M_wet_59 : decode b_M_wet 59 = .ok (.getfield 25, 3) := by decide +kernel
theorem d_M_wet_62 : decode b_M_wet 62 = .ok (.iload 6, 2) := by decide +kernel
theorem d_M_wet_64 : decode b_M_wet 64 = .ok (.invokevirtual 128, 3) := by decide +kernel
theorem d_M_wet_67 : decode b_M_wet 67 = .ok (.iload_n 1, 1) := by decide +kernel
theorem d_M_wet_68 : decode b_M_wet 68 = .ok (.if_icmp .ne 20, 3) := by decide +kernel
theorem d_M_wet_71 : decode b_M_wet 71 = .ok (.iinc 3 1, 3) := by decide +kernel
theorem d_M_wet_74 : decode b_M_wet 74 = .ok (.iload 4, 2) := by decide +kernel
theorem d_M_wet_76 : decode b_M_wet 76 = .ok (.iload 6, 2) := by decide +kernel
theorem d_M_wet_78 : decode b_M_wet 78 = .ok (.iand, 1) := by decide +kernel
theorem d_M_wet_79 : decode b_M_wet 79 = .ok (.istore 4, 2) := by decide +kernel
theorem d_M_wet_81 : decode b_M_wet 81 = .ok (.iload 5, 2) := by decide +kernel
theorem d_M_wet_83 : decode b_M_wet 83 = .ok (.iload 6, 2) := by decide +kernel
theorem d_M_wet_85 : decode b_M_wet 85 = .ok (.ior, 1) := by decide +kernel
theorem d_M_wet_86 : decode b_M_wet 86 = .ok (.istore 5, 2) := by decide +kernel
theorem d_M_wet_88 : decode b_M_wet 88 = .ok (.iinc 6 1, 3) := by decide +kernel
theorem d_M_wet_91 : decode b_M_wet 91 = .ok (.goto (-43), 3) := by decide +kernel
theorem d_M_wet_94 : decode b_M_wet 94 = .ok (.iload_n 2, 1) := by decide +kernel
theorem d_M_wet_95 : decode b_M_wet 95 = .ok (.ifCond .ne 7, 3) := by decide +kernel
theorem d_M_wet_98 : decode b_M_wet 98 = .ok (.iload_n 3, 1) := by decide +kernel
theorem d_M_wet_99 : decode b_M_wet 99 = .ok (.goto 31, 3) := by decide +kernel
theorem d_M_wet_102 : decode b_M_wet 102 = .ok (.iload_n 3, 1) := by decide +kernel
theorem d_M_wet_103 : decode b_M_wet 103 = .ok (.ifCond .ne 8, 3) := by decide +kernel
theorem d_M_wet_106 : decode b_M_wet 106 = .ok (.bipush (-9), 2) := by decide +kernel
theorem d_M_wet_108 : decode b_M_wet 108 = .ok (.goto 22, 3) := by decide +kernel
theorem d_M_wet_111 : decode b_M_wet 111 = .ok (.iload_n 2, 1) := by decide +kernel
theorem d_M_wet_112 : decode b_M_wet 112 = .ok (.iconst 1, 1) := by decide +kernel
theorem d_M_wet_113 : decode b_M_wet 113 = .ok (.if_icmp .ne 8, 3) := by decide +kernel
theorem d_M_wet_116 : decode b_M_wet 116 = .ok (.iload 4, 2) := by decide +kernel
theorem d_M_wet_118 : decode b_M_wet 118 = .ok (.goto 12, 3) := by decide +kernel
theorem d_M_wet_121 : decode b_M_wet 121 = .ok (.aload_n 0, 1) := by decide +kernel
theorem d_M_wet_122 : decode b_M_wet 122 = .ok (.invokevirtual 108, 3) := by decide +kernel
theorem d_M_wet_125 : decode b_M_wet 125 = .ok (.iload 5, 2) := by decide +kernel
theorem d_M_wet_127 : decode b_M_wet 127 = .ok (.iconst (-1), 1) := by decide +kernel
theorem d_M_wet_128 : decode b_M_wet 128 = .ok (.ixor, 1) := by decide +kernel
theorem d_M_wet_129 : decode b_M_wet 129 = .ok (.iand, 1) := by decide +kernel
theorem d_M_wet_130 : decode b_M_wet 130 = .ok (.ireturn, 1) := by decide +kernel
abbrev b_M_netOf : ByteArray := prog_5_method_50_code
def y_M_netOf : MethodName := ⟨R_M, "netOf", "(I)I"⟩
theorem mc_M_netOf : Cond.code y_M_netOf b_M_netOf 4 (Option.some .int) ∈ lw_use := g_use (List.mem_of_getElem? (i := 736) (by decide +kernel)) rfl
theorem d_M_netOf_0 : decode b_M_netOf 0 = .ok (.iconst 0, 1) := by decide +kernel
theorem d_M_netOf_1 : decode b_M_netOf 1 = .ok (.istore_n 2, 1) := by decide +kernel
theorem d_M_netOf_2 : decode b_M_netOf 2 = .ok (.iconst 0, 1) := by decide +kernel
theorem d_M_netOf_3 : decode b_M_netOf 3 = .ok (.istore_n 3, 1) := by decide +kernel
theorem d_M_netOf_4 : decode b_M_netOf 4 = .ok (.iload_n 3, 1) := by decide +kernel
theorem d_M_netOf_5 : decode b_M_netOf 5 = .ok (.aload_n 0, 1) := by decide +kernel
theorem d_M_netOf_6 : decode b_M_netOf 6 = .ok (.getfield 51, 3) := by decide +kernel
theorem d_M_netOf_9 : decode b_M_netOf 9 = .ok (.if_icmp .ge 41, 3) := by decide +kernel
theorem d_M_netOf_12 : decode b_M_netOf 12 = .ok (.iload_n 2, 1) := by decide +kernel
theorem d_M_netOf_13 : decode b_M_netOf 13 = .ok (.aload_n 0, 1) := by decide +kernel
theorem d_M_netOf_14 : decode b_M_netOf 14 = .ok (.getfield 25, 3) := by decide +kernel
theorem d_M_netOf_17 : decode b_M_netOf 17 = .ok (.bipush 21, 2) := by decide +kernel
theorem d_M_netOf_19 : decode b_M_netOf 19 = .ok (.bipush 6, 2) := by decide +kernel
theorem d_M_netOf_21 : decode b_M_netOf 21 = .ok (.iload_n 3, 1) := by decide +kernel
theorem d_M_netOf_22 : decode b_M_netOf 22 = .ok (.imul, 1) := by decide +kernel
theorem d_M_netOf_23 : decode b_M_netOf 23 = .ok (.iadd, 1) := by decide +kernel
theorem d_M_netOf_24 : decode b_M_netOf 24 = .ok (.iload_n 1, 1) := by decide +kernel
theorem d_M_netOf_25 : decode b_M_netOf 25 = .ok (.iadd, 1) := by decide +kernel
theorem d_M_netOf_26 : decode b_M_netOf 26 = .ok (.iaload, 1) := by decide +kernel
theorem d_M_netOf_27 : decode b_M_netOf 27 = .ok (.aload_n 0, 1) := by decide +kernel
theorem d_M_netOf_28 : decode b_M_netOf 28 = .ok (.getfield 25, 3) := by decide +kernel
theorem d_M_netOf_31 : decode b_M_netOf 31 = .ok (.bipush 21, 2) := by decide +kernel
theorem d_M_netOf_33 : decode b_M_netOf 33 = .ok (.bipush 6, 2) := by decide +kernel
theorem d_M_netOf_35 : decode b_M_netOf 35 = .ok (.iload_n 1, 1) := by decide +kernel
theorem d_M_netOf_36 : decode b_M_netOf 36 = .ok (.imul, 1) := by decide +kernel
theorem d_M_netOf_37 : decode b_M_netOf 37 = .ok (.iadd, 1) := by decide +kernel
theorem d_M_netOf_38 : decode b_M_netOf 38 = .ok (.iload_n 3, 1) := by decide +kernel
theorem d_M_netOf_39 : decode b_M_netOf 39 = .ok (.iadd, 1) := by decide +kernel
theorem d_M_netOf_40 : decode b_M_netOf 40 = .ok (.iaload, 1) := by decide +kernel
theorem d_M_netOf_41 : decode b_M_netOf 41 = .ok (.isub, 1) := by decide +kernel
theorem d_M_netOf_42 : decode b_M_netOf 42 = .ok (.iadd, 1) := by decide +kernel
theorem d_M_netOf_43 : decode b_M_netOf 43 = .ok (.istore_n 2, 1) := by decide +kernel
theorem d_M_netOf_44 : decode b_M_netOf 44 = .ok (.iinc 3 1, 3) := by decide +kernel
theorem d_M_netOf_47 : decode b_M_netOf 47 = .ok (.goto (-43), 3) := by decide +kernel
theorem d_M_netOf_50 : decode b_M_netOf 50 = .ok (.iload_n 2, 1) := by decide +kernel
theorem d_M_netOf_51 : decode b_M_netOf 51 = .ok (.ireturn, 1) := by decide +kernel
abbrev b_M_net : ByteArray := prog_5_method_51_code
def y_M_net : MethodName := ⟨R_M, "net", "(I)I"⟩
theorem mc_M_net : Cond.code y_M_net b_M_net 2 (Option.some .int) ∈ lw_use := g_use (List.mem_of_getElem? (i := 732) (by decide +kernel)) rfl
theorem d_M_net_0 : decode b_M_net 0 = .ok (.aload_n 0, 1) := by decide +kernel
theorem d_M_net_1 : decode b_M_net 1 = .ok (.iconst 0, 1) := by decide +kernel
theorem d_M_net_2 : decode b_M_net 2 = .ok (.putfield 47, 3) := by decide +kernel
theorem d_M_net_5 : decode b_M_net 5 = .ok (.aload_n 0, 1) := by decide +kernel
theorem d_M_net_6 : decode b_M_net 6 = .ok (.iload_n 1, 1) := by decide +kernel
theorem d_M_net_7 : decode b_M_net 7 = .ok (.invokevirtual 115, 3) := by decide +kernel
theorem d_M_net_10 : decode b_M_net 10 = .ok (.ifCond .eq 7, 3) := by decide +kernel
theorem d_M_net_13 : decode b_M_net 13 = .ok (.iconst (-1), 1) := by decide +kernel
theorem d_M_net_14 : decode b_M_net 14 = .ok (.goto 11, 3) := by decide +kernel
theorem d_M_net_17 : decode b_M_net 17 = .ok (.bipush 100, 2) := by decide +kernel
theorem d_M_net_19 : decode b_M_net 19 = .ok (.aload_n 0, 1) := by decide +kernel
theorem d_M_net_20 : decode b_M_net 20 = .ok (.iload_n 1, 1) := by decide +kernel
theorem d_M_net_21 : decode b_M_net 21 = .ok (.invokevirtual 170, 3) := by decide +kernel
theorem d_M_net_24 : decode b_M_net 24 = .ok (.iadd, 1) := by decide +kernel
theorem d_M_net_25 : decode b_M_net 25 = .ok (.ireturn, 1) := by decide +kernel
abbrev b_M_payings : ByteArray := prog_5_method_52_code
def y_M_payings : MethodName := ⟨R_M, "payings", "()I"⟩
theorem mc_M_payings : Cond.code y_M_payings b_M_payings 7 (Option.some .int) ∈ lw_use := g_use (List.mem_of_getElem? (i := 740) (by decide +kernel)) rfl
theorem d_M_payings_0 : decode b_M_payings 0 = .ok (.aload_n 0, 1) := by decide +kernel
theorem d_M_payings_1 : decode b_M_payings 1 = .ok (.iconst 0, 1) := by decide +kernel
theorem d_M_payings_2 : decode b_M_payings 2 = .ok (.putfield 47, 3) := by decide +kernel
theorem d_M_payings_5 : decode b_M_payings 5 = .ok (.iconst 0, 1) := by decide +kernel
theorem d_M_payings_6 : decode b_M_payings 6 = .ok (.istore_n 1, 1) := by decide +kernel
theorem d_M_payings_7 : decode b_M_payings 7 = .ok (.iconst 0, 1) := by decide +kernel
theorem d_M_payings_8 : decode b_M_payings 8 = .ok (.istore_n 2, 1) := by decide +kernel
theorem d_M_payings_9 : decode b_M_payings 9 = .ok (.iload_n 2, 1) := by decide +kernel
theorem d_M_payings_10 : decode b_M_payings 10 = .ok (.aload_n 0, 1) := by decide +kernel
theorem d_M_payings_11 : decode b_M_payings 11 = .ok (.getfield 51, 3) := by decide +kernel
theorem d_M_payings_14 : decode b_M_payings 14 = .ok (.if_icmp .ge 27, 3) := by decide +kernel
theorem d_M_payings_17 : decode b_M_payings 17 = .ok (.iload_n 1, 1) := by decide +kernel
theorem d_M_payings_18 : decode b_M_payings 18 = .ok (.aload_n 0, 1) := by decide +kernel
theorem d_M_payings_19 : decode b_M_payings 19 = .ok (.iload_n 2, 1) := by decide +kernel
theorem d_M_payings_20 : decode b_M_payings 20 = .ok (.invokevirtual 170, 3) := by decide +kernel
theorem d_M_payings_23 : decode b_M_payings 23 = .ok (.ifCond .eq 9, 3) := by decide +kernel
theorem d_M_payings_26 : decode b_M_payings 26 = .ok (.iconst 1, 1) := by decide +kernel
theorem d_M_payings_27 : decode b_M_payings 27 = .ok (.iload_n 2, 1) := by decide +kernel
theorem d_M_payings_28 : decode b_M_payings 28 = .ok (.ishl, 1) := by decide +kernel
theorem d_M_payings_29 : decode b_M_payings 29 = .ok (.goto 4, 3) := by decide +kernel
theorem d_M_payings_32 : decode b_M_payings 32 = .ok (.iconst 0, 1) := by decide +kernel
theorem d_M_payings_33 : decode b_M_payings 33 = .ok (.ior, 1) := by decide +kernel
theorem d_M_payings_34 : decode b_M_payings 34 = .ok (.istore_n 1, 1) := by decide +kernel
theorem d_M_payings_35 : decode b_M_payings 35 = .ok (.iinc 2 1, 3) := by decide +kernel
theorem d_M_payings_38 : decode b_M_payings 38 = .ok (.goto (-29), 3) := by decide +kernel
theorem d_M_payings_41 : decode b_M_payings 41 = .ok (.iconst 0, 1) := by decide +kernel
theorem d_M_payings_42 : decode b_M_payings 42 = .ok (.istore_n 2, 1) := by decide +kernel
theorem d_M_payings_43 : decode b_M_payings 43 = .ok (.iload_n 2, 1) := by decide +kernel
theorem d_M_payings_44 : decode b_M_payings 44 = .ok (.iload_n 1, 1) := by decide +kernel
theorem d_M_payings_45 : decode b_M_payings 45 = .ok (.if_icmp .gt 148, 3) := by decide +kernel
theorem d_M_payings_48 : decode b_M_payings 48 = .ok (.aload_n 0, 1) := by decide +kernel
theorem d_M_payings_49 : decode b_M_payings 49 = .ok (.getfield 44, 3) := by decide +kernel
theorem d_M_payings_52 : decode b_M_payings 52 = .ok (.iload_n 2, 1) := by decide +kernel
theorem d_M_payings_53 : decode b_M_payings 53 = .ok (.iload_n 2, 1) := by decide +kernel
theorem d_M_payings_54 : decode b_M_payings 54 = .ok (.ifCond .ne 7, 3) := by decide +kernel
theorem d_M_payings_57 : decode b_M_payings 57 = .ok (.iconst 0, 1) := by decide +kernel
theorem d_M_payings_58 : decode b_M_payings 58 = .ok (.goto 5, 3) := by decide +kernel
theorem d_M_payings_61 : decode b_M_payings 61 = .ok (.bipush (-9), 2) := by decide +kernel
theorem d_M_payings_63 : decode b_M_payings 63 = .ok (.iastore, 1) := by decide +kernel
theorem d_M_payings_64 : decode b_M_payings 64 = .ok (.aload_n 0, 1) := by decide +kernel
theorem d_M_payings_65 : decode b_M_payings 65 = .ok (.iload_n 2, 1) := by decide +kernel
theorem d_M_payings_66 : decode b_M_payings 66 = .ok (.invokevirtual 173, 3) := by decide +kernel
theorem d_M_payings_69 : decode b_M_payings 69 = .ok (.istore_n 3, 1) := by decide +kernel
theorem d_M_payings_70 : decode b_M_payings 70 = .ok (.iconst 1, 1) := by decide +kernel
theorem d_M_payings_71 : decode b_M_payings 71 = .ok (.istore 4, 2) := by decide +kernel
theorem d_M_payings_73 : decode b_M_payings 73 = .ok (.iload 4, 2) := by decide +kernel
theorem d_M_payings_75 : decode b_M_payings 75 = .ok (.iload_n 2, 1) := by decide +kernel
theorem d_M_payings_76 : decode b_M_payings 76 = .ok (.if_icmp .gt 111, 3) := by decide +kernel
theorem d_M_payings_79 : decode b_M_payings 79 = .ok (.iload_n 3, 1) := by decide +kernel
theorem d_M_payings_80 : decode b_M_payings 80 = .ok (.ifCond .ne 107, 3) := by decide +kernel
theorem d_M_payings_83 : decode b_M_payings 83 = .ok (.iload_n 2, 1) := by decide +kernel
theorem d_M_payings_84 : decode b_M_payings 84 = .ok (.iload 4, 2) := by decide +kernel
theorem d_M_payings_86 : decode b_M_payings 86 = .ok (.iconst (-1), 1) := by decide +kernel
theorem d_M_payings_87 : decode b_M_payings 87 = .ok (.ixor, 1) := by decide +kernel
theorem d_M_payings_88 : decode b_M_payings 88 = .ok (.iand, 1) := by decide +kernel
theorem d_M_payings_89 : decode b_M_payings 89 = .ok (.istore 5, 2) := by decide +kernel
theorem d_M_payings_91 : decode b_M_payings 91 = .ok (.iload 4, 2) := by decide +kernel
theorem d_M_payings_93 : decode b_M_payings 93 = .ok (.iload_n 2, 1) := by decide +kernel
theorem d_M_payings_94 : decode b_M_payings 94 = .ok (.iconst (-1), 1) := by decide +kernel
theorem d_M_payings_95 : decode b_M_payings 95 = .ok (.ixor, 1) := by decide +kernel
theorem d_M_payings_96 : decode b_M_payings 96 = .ok (.iand, 1) := by decide +kernel
theorem d_M_payings_97 : decode b_M_payings 97 = .ok (.ifCond .ne 34, 3) := by decide +kernel
theorem d_M_payings_100 : decode b_M_payings 100 = .ok (.iload 5, 2) := by decide +kernel
theorem d_M_payings_102 : decode b_M_payings 102 = .ok (.iload_n 2, 1) := by decide +kernel
theorem d_M_payings_103 : decode b_M_payings 103 = .ok (.if_icmp .eq 28, 3) := by decide +kernel
theorem d_M_payings_106 : decode b_M_payings 106 = .ok (.aload_n 0, 1) := by decide +kernel
theorem d_M_payings_107 : decode b_M_payings 107 = .ok (.getfield 44, 3) := by decide +kernel
theorem d_M_payings_110 : decode b_M_payings 110 = .ok (.iload 5, 2) := by decide +kernel
theorem d_M_payings_112 : decode b_M_payings 112 = .ok (.iaload, 1) := by decide +kernel
theorem d_M_payings_113 : decode b_M_payings 113 = .ok (.bipush (-9), 2) := by decide +kernel
theorem d_M_payings_115 : decode b_M_payings 115 = .ok (.if_icmp .eq 16, 3) := by decide +kernel
theorem d_M_payings_118 : decode b_M_payings 118 = .ok (.aload_n 0, 1) := by decide +kernel
theorem d_M_payings_119 : decode b_M_payings 119 = .ok (.iload 4, 2) := by decide +kernel
theorem d_M_payings_121 : decode b_M_payings 121 = .ok (.invokevirtual 173, 3) := by decide +kernel
theorem d_M_payings_124 : decode b_M_payings 124 = .ok (.ifCond .ne 7, 3) := by decide +kernel
theorem d_M_payings_127 : decode b_M_payings 127 = .ok (.iconst 1, 1) := by decide +kernel
theorem d_M_payings_128 : decode b_M_payings 128 = .ok (.goto 4, 3) := by decide +kernel
theorem d_M_payings_131 : decode b_M_payings 131 = .ok (.iconst 0, 1) := by decide +kernel
theorem d_M_payings_132 : decode b_M_payings 132 = .ok (.istore 6, 2) := by decide +kernel
theorem d_M_payings_134 : decode b_M_payings 134 = .ok (.aload_n 0, 1) := by decide +kernel
theorem d_M_payings_135 : decode b_M_payings 135 = .ok (.getfield 44, 3) := by decide +kernel
theorem d_M_payings_138 : decode b_M_payings 138 = .ok (.iload_n 2, 1) := by decide +kernel
theorem d_M_payings_139 : decode b_M_payings 139 = .ok (.iload 6, 2) := by decide +kernel
theorem d_M_payings_141 : decode b_M_payings 141 = .ok (.ifCond .eq 33, 3) := by decide +kernel
theorem d_M_payings_144 : decode b_M_payings 144 = .ok (.aload_n 0, 1) := by decide +kernel
theorem d_M_payings_145 : decode b_M_payings 145 = .ok (.getfield 44, 3) := by decide +kernel
theorem d_M_payings_148 : decode b_M_payings 148 = .ok (.iload 5, 2) := by decide +kernel
theorem d_M_payings_150 : decode b_M_payings 150 = .ok (.iaload, 1) := by decide +kernel
theorem d_M_payings_151 : decode b_M_payings 151 = .ok (.iconst 1, 1) := by decide +kernel
theorem d_M_payings_152 : decode b_M_payings 152 = .ok (.iadd, 1) := by decide +kernel
theorem d_M_payings_153 : decode b_M_payings 153 = .ok (.aload_n 0, 1) := by decide +kernel
theorem d_M_payings_154 : decode b_M_payings 154 = .ok (.getfield 44, 3) := by decide +kernel
theorem d_M_payings_157 : decode b_M_payings 157 = .ok (.iload_n 2, 1) := by decide +kernel
theorem d_M_payings_158 : decode b_M_payings 158 = .ok (.iaload, 1) := by decide +kernel
theorem d_M_payings_159 : decode b_M_payings 159 = .ok (.if_icmp .le 15, 3) := by decide +kernel
theorem d_M_payings_162 : decode b_M_payings 162 = .ok (.aload_n 0, 1) := by decide +kernel
theorem d_M_payings_163 : decode b_M_payings 163 = .ok (.getfield 44, 3) := by decide +kernel
theorem d_M_payings_166 : decode b_M_payings 166 = .ok (.iload 5, 2) := by decide +kernel
theorem d_M_payings_168 : decode b_M_payings 168 = .ok (.iaload, 1) := by decide +kernel
theorem d_M_payings_169 : decode b_M_payings 169 = .ok (.iconst 1, 1) := by decide +kernel
theorem d_M_payings_170 : decode b_M_payings 170 = .ok (.iadd, 1) := by decide +kernel
theorem d_M_payings_171 : decode b_M_payings 171 = .ok (.goto 9, 3) := by decide +kernel
theorem d_M_payings_174 : decode b_M_payings 174 = .ok (.aload_n 0, 1) := by decide +kernel
theorem d_M_payings_175 : decode b_M_payings 175 = .ok (.getfield 44, 3) := by decide +kernel
theorem d_M_payings_178 : decode b_M_payings 178 = .ok (.iload_n 2, 1) := by decide +kernel
theorem d_M_payings_179 : decode b_M_payings 179 = .ok (.iaload, 1) := by decide +kernel
theorem d_M_payings_180 : decode b_M_payings 180 = .ok (.iastore, 1) := by decide +kernel
theorem d_M_payings_181 : decode b_M_payings 181 = .ok (.iinc 4 1, 3) := by decide +kernel
theorem d_M_payings_184 : decode b_M_payings 184 = .ok (.goto (-111), 3) := by decide +kernel
theorem d_M_payings_187 : decode b_M_payings 187 = .ok (.iinc 2 1, 3) := by decide +kernel
theorem d_M_payings_190 : decode b_M_payings 190 = .ok (.goto (-147), 3) := by decide +kernel
theorem d_M_payings_193 : decode b_M_payings 193 = .ok (.iload_n 1, 1) := by decide +kernel
theorem d_M_payings_194 : decode b_M_payings 194 = .ok (.invokestatic 176, 3) := by decide +kernel
theorem d_M_payings_197 : decode b_M_payings 197 = .ok (.aload_n 0, 1) := by decide +kernel
theorem d_M_payings_198 : decode b_M_payings 198 = .ok (.getfield 44, 3) := by decide +kernel
theorem d_M_payings_201 : decode b_M_payings 201 = .ok (.iload_n 1, 1) := by decide +kernel
theorem d_M_payings_202 : decode b_M_payings 202 = .ok (.iaload, 1) := by decide +kernel
theorem d_M_payings_203 : decode b_M_payings 203 = .ok (.isub, 1) := by decide +kernel
theorem d_M_payings_204 : decode b_M_payings 204 = .ok (.ireturn, 1) := by decide +kernel
abbrev b_M_sumOf : ByteArray := prog_5_method_53_code
def y_M_sumOf : MethodName := ⟨R_M, "sumOf", "(I)I"⟩
theorem mc_M_sumOf : Cond.code y_M_sumOf b_M_sumOf 4 (Option.some .int) ∈ lw_use := g_use (List.mem_of_getElem? (i := 744) (by decide +kernel)) rfl
theorem d_M_sumOf_0 : decode b_M_sumOf 0 = .ok (.iconst 0, 1) := by decide +kernel
theorem d_M_sumOf_1 : decode b_M_sumOf 1 = .ok (.istore_n 2, 1) := by decide +kernel
theorem d_M_sumOf_2 : decode b_M_sumOf 2 = .ok (.iconst 0, 1) := by decide +kernel
theorem d_M_sumOf_3 : decode b_M_sumOf 3 = .ok (.istore_n 3, 1) := by decide +kernel
theorem d_M_sumOf_4 : decode b_M_sumOf 4 = .ok (.iload_n 3, 1) := by decide +kernel
theorem d_M_sumOf_5 : decode b_M_sumOf 5 = .ok (.aload_n 0, 1) := by decide +kernel
theorem d_M_sumOf_6 : decode b_M_sumOf 6 = .ok (.getfield 51, 3) := by decide +kernel
theorem d_M_sumOf_9 : decode b_M_sumOf 9 = .ok (.if_icmp .ge 29, 3) := by decide +kernel
theorem d_M_sumOf_12 : decode b_M_sumOf 12 = .ok (.iload_n 2, 1) := by decide +kernel
theorem d_M_sumOf_13 : decode b_M_sumOf 13 = .ok (.iload_n 1, 1) := by decide +kernel
theorem d_M_sumOf_14 : decode b_M_sumOf 14 = .ok (.iload_n 3, 1) := by decide +kernel
theorem d_M_sumOf_15 : decode b_M_sumOf 15 = .ok (.invokestatic 78, 3) := by decide +kernel
theorem d_M_sumOf_18 : decode b_M_sumOf 18 = .ok (.ifCond .eq 11, 3) := by decide +kernel
theorem d_M_sumOf_21 : decode b_M_sumOf 21 = .ok (.aload_n 0, 1) := by decide +kernel
theorem d_M_sumOf_22 : decode b_M_sumOf 22 = .ok (.iload_n 3, 1) := by decide +kernel
theorem d_M_sumOf_23 : decode b_M_sumOf 23 = .ok (.invokevirtual 170, 3) := by decide +kernel
theorem d_M_sumOf_26 : decode b_M_sumOf 26 = .ok (.goto 4, 3) := by decide +kernel
theorem d_M_sumOf_29 : decode b_M_sumOf 29 = .ok (.iconst 0, 1) := by decide +kernel
theorem d_M_sumOf_30 : decode b_M_sumOf 30 = .ok (.iadd, 1) := by decide +kernel
theorem d_M_sumOf_31 : decode b_M_sumOf 31 = .ok (.istore_n 2, 1) := by decide +kernel
theorem d_M_sumOf_32 : decode b_M_sumOf 32 = .ok (.iinc 3 1, 3) := by decide +kernel
theorem d_M_sumOf_35 : decode b_M_sumOf 35 = .ok (.goto (-31), 3) := by decide +kernel
theorem d_M_sumOf_38 : decode b_M_sumOf 38 = .ok (.iload_n 2, 1) := by decide +kernel
theorem d_M_sumOf_39 : decode b_M_sumOf 39 = .ok (.ireturn, 1) := by decide +kernel
abbrev b_M_orders : ByteArray := prog_5_method_54_code
def y_M_orders : MethodName := ⟨R_M, "orders", "(I)I"⟩
theorem mc_M_orders : Cond.code y_M_orders b_M_orders 3 (Option.some .int) ∈ lw_use := g_use (List.mem_of_getElem? (i := 754) (by decide +kernel)) rfl
theorem d_M_orders_0 : decode b_M_orders 0 = .ok (.iconst 1, 1) := by decide +kernel
theorem d_M_orders_1 : decode b_M_orders 1 = .ok (.istore_n 1, 1) := by decide +kernel
theorem d_M_orders_2 : decode b_M_orders 2 = .ok (.iconst 2, 1) := by decide +kernel
theorem d_M_orders_3 : decode b_M_orders 3 = .ok (.istore_n 2, 1) := by decide +kernel
theorem d_M_orders_4 : decode b_M_orders 4 = .ok (.iload_n 2, 1) := by decide +kernel
theorem d_M_orders_5 : decode b_M_orders 5 = .ok (.iload_n 0, 1) := by decide +kernel
theorem d_M_orders_6 : decode b_M_orders 6 = .ok (.if_icmp .gt 13, 3) := by decide +kernel
theorem d_M_orders_9 : decode b_M_orders 9 = .ok (.iload_n 1, 1) := by decide +kernel
theorem d_M_orders_10 : decode b_M_orders 10 = .ok (.iload_n 2, 1) := by decide +kernel
theorem d_M_orders_11 : decode b_M_orders 11 = .ok (.imul, 1) := by decide +kernel
theorem d_M_orders_12 : decode b_M_orders 12 = .ok (.istore_n 1, 1) := by decide +kernel
theorem d_M_orders_13 : decode b_M_orders 13 = .ok (.iinc 2 1, 3) := by decide +kernel
theorem d_M_orders_16 : decode b_M_orders 16 = .ok (.goto (-12), 3) := by decide +kernel
theorem d_M_orders_19 : decode b_M_orders 19 = .ok (.iload_n 1, 1) := by decide +kernel
theorem d_M_orders_20 : decode b_M_orders 20 = .ok (.ireturn, 1) := by decide +kernel
abbrev b_M_divisor : ByteArray := prog_5_method_55_code
def y_M_divisor : MethodName := ⟨R_M, "divisor", "(II)I"⟩
theorem mc_M_divisor : Cond.code y_M_divisor b_M_divisor 5 (Option.some .int) ∈ lw_use := g_use (List.mem_of_getElem? (i := 760) (by decide +kernel)) rfl
theorem d_M_divisor_0 : decode b_M_divisor 0 = .ok (.iload_n 0, 1) := by decide +kernel
theorem d_M_divisor_1 : decode b_M_divisor 1 = .ok (.ifCond .ge 8, 3) := by decide +kernel
theorem d_M_divisor_4 : decode b_M_divisor 4 = .ok (.iload_n 0, 1) := by decide +kernel
theorem d_M_divisor_5 : decode b_M_divisor 5 = .ok (.ineg, 1) := by decide +kernel
theorem d_M_divisor_6 : decode b_M_divisor 6 = .ok (.goto 4, 3) := by decide +kernel
theorem d_M_divisor_9 : decode b_M_divisor 9 = .ok (.iload_n 0, 1) := by decide +kernel
theorem d_M_divisor_10 : decode b_M_divisor 10 = .ok (.istore_n 2, 1) := by decide +kernel
theorem d_M_divisor_11 : decode b_M_divisor 11 = .ok (.iload_n 1, 1) := by decide +kernel
theorem d_M_divisor_12 : decode b_M_divisor 12 = .ok (.istore_n 3, 1) := by decide +kernel
theorem d_M_divisor_13 : decode b_M_divisor 13 = .ok (.iload_n 3, 1) := by decide +kernel
theorem d_M_divisor_14 : decode b_M_divisor 14 = .ok (.ifCond .eq 16, 3) := by decide +kernel
theorem d_M_divisor_17 : decode b_M_divisor 17 = .ok (.iload_n 2, 1) := by decide +kernel
theorem d_M_divisor_18 : decode b_M_divisor 18 = .ok (.iload_n 3, 1) := by decide +kernel
theorem d_M_divisor_19 : decode b_M_divisor 19 = .ok (.irem, 1) := by decide +kernel
theorem d_M_divisor_20 : decode b_M_divisor 20 = .ok (.istore 4, 2) := by decide +kernel
theorem d_M_divisor_22 : decode b_M_divisor 22 = .ok (.iload_n 3, 1) := by decide +kernel
theorem d_M_divisor_23 : decode b_M_divisor 23 = .ok (.istore_n 2, 1) := by decide +kernel
theorem d_M_divisor_24 : decode b_M_divisor 24 = .ok (.iload 4, 2) := by decide +kernel
theorem d_M_divisor_26 : decode b_M_divisor 26 = .ok (.istore_n 3, 1) := by decide +kernel
theorem d_M_divisor_27 : decode b_M_divisor 27 = .ok (.goto (-14), 3) := by decide +kernel
theorem d_M_divisor_30 : decode b_M_divisor 30 = .ok (.iload_n 2, 1) := by decide +kernel
theorem d_M_divisor_31 : decode b_M_divisor 31 = .ok (.ireturn, 1) := by decide +kernel
abbrev b_M_fraction : ByteArray := prog_5_method_56_code
def y_M_fraction : MethodName := ⟨R_M, "fraction", "(IIZ)I"⟩
theorem mc_M_fraction : Cond.code y_M_fraction b_M_fraction 4 (Option.some .int) ∈ lw_use := g_use (List.mem_of_getElem? (i := 757) (by decide +kernel)) rfl
theorem d_M_fraction_0 : decode b_M_fraction 0 = .ok (.iload_n 0, 1) := by decide +kernel
theorem d_M_fraction_1 : decode b_M_fraction 1 = .ok (.iload_n 1, 1) := by decide +kernel
theorem d_M_fraction_2 : decode b_M_fraction 2 = .ok (.invokestatic 179, 3) := by decide +kernel
theorem d_M_fraction_5 : decode b_M_fraction 5 = .ok (.istore_n 3, 1) := by decide +kernel
theorem d_M_fraction_6 : decode b_M_fraction 6 = .ok (.iload_n 2, 1) := by decide +kernel
theorem d_M_fraction_7 : decode b_M_fraction 7 = .ok (.ifCond .eq 9, 3) := by decide +kernel
theorem d_M_fraction_10 : decode b_M_fraction 10 = .ok (.iload_n 0, 1) := by decide +kernel
theorem d_M_fraction_11 : decode b_M_fraction 11 = .ok (.iload_n 3, 1) := by decide +kernel
theorem d_M_fraction_12 : decode b_M_fraction 12 = .ok (.idiv, 1) := by decide +kernel
theorem d_M_fraction_13 : decode b_M_fraction 13 = .ok (.goto 6, 3) := by decide +kernel
theorem d_M_fraction_16 : decode b_M_fraction 16 = .ok (.iload_n 1, 1) := by decide +kernel
theorem d_M_fraction_17 : decode b_M_fraction 17 = .ok (.iload_n 3, 1) := by decide +kernel
theorem d_M_fraction_18 : decode b_M_fraction 18 = .ok (.idiv, 1) := by decide +kernel
theorem d_M_fraction_19 : decode b_M_fraction 19 = .ok (.ireturn, 1) := by decide +kernel
abbrev b_M_share : ByteArray := prog_5_method_57_code
def y_M_share : MethodName := ⟨R_M, "share", "(IIZ)I"⟩
theorem mc_M_share : Cond.code y_M_share b_M_share 7 (Option.some .int) ∈ lw_use := g_use (List.mem_of_getElem? (i := 751) (by decide +kernel)) rfl
theorem d_M_share_0 : decode b_M_share 0 = .ok (.aload_n 0, 1) := by decide +kernel
theorem d_M_share_1 : decode b_M_share 1 = .ok (.iconst 0, 1) := by decide +kernel
theorem d_M_share_2 : decode b_M_share 2 = .ok (.putfield 47, 3) := by decide +kernel
theorem d_M_share_5 : decode b_M_share 5 = .ok (.aload_n 0, 1) := by decide +kernel
theorem d_M_share_6 : decode b_M_share 6 = .ok (.iload_n 1, 1) := by decide +kernel
theorem d_M_share_7 : decode b_M_share 7 = .ok (.invokevirtual 115, 3) := by decide +kernel
theorem d_M_share_10 : decode b_M_share 10 = .ok (.ifCond .eq 5, 3) := by decide +kernel
theorem d_M_share_13 : decode b_M_share 13 = .ok (.iconst (-1), 1) := by decide +kernel
theorem d_M_share_14 : decode b_M_share 14 = .ok (.ireturn, 1) := by decide +kernel
theorem d_M_share_15 : decode b_M_share 15 = .ok (.iload_n 2, 1) := by decide +kernel
theorem d_M_share_16 : decode b_M_share 16 = .ok (.invokestatic 119, 3) := by decide +kernel
theorem d_M_share_19 : decode b_M_share 19 = .ok (.ifCond .eq 6, 3) := by decide +kernel
theorem d_M_share_22 : decode b_M_share 22 = .ok (.bipush (-2), 2) := by decide +kernel
theorem d_M_share_24 : decode b_M_share 24 = .ok (.ireturn, 1) := by decide +kernel
theorem d_M_share_25 : decode b_M_share 25 = .ok (.iconst 0, 1) := by decide +kernel
theorem d_M_share_26 : decode b_M_share 26 = .ok (.istore 4, 2) := by decide +kernel
theorem d_M_share_28 : decode b_M_share 28 = .ok (.iload 4, 2) := by decide +kernel
theorem d_M_share_30 : decode b_M_share 30 = .ok (.aload_n 0, 1) := by decide +kernel
theorem d_M_share_31 : decode b_M_share 31 = .ok (.invokevirtual 108, 3) := by decide +kernel
theorem d_M_share_34 : decode b_M_share 34 = .ok (.if_icmp .gt 31, 3) := by decide +kernel
theorem d_M_share_37 : decode b_M_share 37 = .ok (.aload_n 0, 1) := by decide +kernel
theorem d_M_share_38 : decode b_M_share 38 = .ok (.aload_n 0, 1) := by decide +kernel
theorem d_M_share_39 : decode b_M_share 39 = .ok (.iload 4, 2) := by decide +kernel
theorem d_M_share_41 : decode b_M_share 41 = .ok (.invokevirtual 111, 3) := by decide +kernel
theorem d_M_share_44 : decode b_M_share 44 = .ok (.iload_n 2, 1) := by decide +kernel
theorem d_M_share_45 : decode b_M_share 45 = .ok (.invokevirtual 145, 3) := by decide +kernel
theorem d_M_share_48 : decode b_M_share 48 = .ok (.aload_n 0, 1) := by decide +kernel
theorem d_M_share_49 : decode b_M_share 49 = .ok (.getfield 41, 3) := by decide +kernel
theorem d_M_share_52 : decode b_M_share 52 = .ok (.iload 4, 2) := by decide +kernel
theorem d_M_share_54 : decode b_M_share 54 = .ok (.aload_n 0, 1) := by decide +kernel
theorem d_M_share_55 : decode b_M_share 55 = .ok (.getfield 137, 3) := by decide +kernel
theorem d_M_share_58 : decode b_M_share 58 = .ok (.iastore, 1) := by decide +kernel
theorem d_M_share_59 : decode b_M_share 59 = .ok (.iinc 4 1, 3) := by decide +kernel
theorem d_M_share_62 : decode b_M_share 62 = .ok (.goto (-34), 3) := by decide +kernel
theorem d_M_share_65 : decode b_M_share 65 = .ok (.iconst 0, 1) := by decide +kernel
theorem d_M_share_66 : decode b_M_share 66 = .ok (.istore 4, 2) := by decide +kernel
theorem d_M_share_68 : decode b_M_share 68 = .ok (.iconst 0, 1) := by decide +kernel
theorem d_M_share_69 : decode b_M_share 69 = .ok (.istore 5, 2) := by decide +kernel
theorem d_M_share_71 : decode b_M_share 71 = .ok (.iload 5, 2) := by decide +kernel
theorem d_M_share_73 : decode b_M_share 73 = .ok (.aload_n 0, 1) := by decide +kernel
theorem d_M_share_74 : decode b_M_share 74 = .ok (.invokevirtual 108, 3) := by decide +kernel
theorem d_M_share_77 : decode b_M_share 77 = .ok (.if_icmp .gt 68, 3) := by decide +kernel
theorem d_M_share_80 : decode b_M_share 80 = .ok (.iload 5, 2) := by decide +kernel
theorem d_M_share_82 : decode b_M_share 82 = .ok (.iload_n 1, 1) := by decide +kernel
theorem d_M_share_83 : decode b_M_share 83 = .ok (.invokestatic 78, 3) := by decide +kernel
theorem d_M_share_86 : decode b_M_share 86 = .ok (.ifCond .ne 53, 3) := by decide +kernel
theorem d_M_share_89 : decode b_M_share 89 = .ok (.iload 5, 2) := by decide +kernel
theorem d_M_share_91 : decode b_M_share 91 = .ok (.invokestatic 176, 3) := by decide +kernel
theorem d_M_share_94 : decode b_M_share 94 = .ok (.istore 6, 2) := by decide +kernel
theorem d_M_share_96 : decode b_M_share 96 = .ok (.iload 4, 2) := by decide +kernel
theorem d_M_share_98 : decode b_M_share 98 = .ok (.iload 6, 2) := by decide +kernel
theorem d_M_share_100 : decode b_M_share 100 = .ok (.invokestatic 182, 3) := by decide +kernel
theorem d_M_share_103 : decode b_M_share 103 = .ok (.aload_n 0, 1) := by decide +kernel
theorem d_M_share_104 : decode b_M_share 104 = .ok (.getfield 51, 3) := by decide +kernel
theorem d_M_share_107 : decode b_M_share 107 = .ok (.iconst 1, 1) := by decide +kernel
theorem d_M_share_108 : decode b_M_share 108 = .ok (.isub, 1) := by decide +kernel
theorem d_M_share_109 : decode b_M_share 109 = .ok (.iload 6, 2) := by decide +kernel
theorem d_M_share_111 : decode b_M_share 111 = .ok (.isub, 1) := by decide +kernel
theorem d_M_share_112 : decode b_M_share 112 = .ok (.invokestatic 182, 3) := by decide +kernel
theorem d_M_share_115 : decode b_M_share 115 = .ok (.imul, 1) := by decide +kernel
theorem d_M_share_116 : decode b_M_share 116 = .ok (.aload_n 0, 1) := by decide +kernel
theorem d_M_share_117 : decode b_M_share 117 = .ok (.getfield 41, 3) := by decide +kernel
theorem d_M_share_120 : decode b_M_share 120 = .ok (.iload 5, 2) := by decide +kernel
theorem d_M_share_122 : decode b_M_share 122 = .ok (.iaload, 1) := by decide +kernel
theorem d_M_share_123 : decode b_M_share 123 = .ok (.aload_n 0, 1) := by decide +kernel
theorem d_M_share_124 : decode b_M_share 124 = .ok (.getfield 41, 3) := by decide +kernel
theorem d_M_share_127 : decode b_M_share 127 = .ok (.iload 5, 2) := by decide +kernel
theorem d_M_share_129 : decode b_M_share 129 = .ok (.iconst 1, 1) := by decide +kernel
theorem d_M_share_130 : decode b_M_share 130 = .ok (.iload_n 1, 1) := by decide +kernel
theorem d_M_share_131 : decode b_M_share 131 = .ok (.ishl, 1) := by decide +kernel
theorem d_M_share_132 : decode b_M_share 132 = .ok (.ior, 1) := by decide +kernel
theorem d_M_share_133 : decode b_M_share 133 = .ok (.iaload, 1) := by decide +kernel
theorem d_M_share_134 : decode b_M_share 134 = .ok (.isub, 1) := by decide +kernel
theorem d_M_share_135 : decode b_M_share 135 = .ok (.imul, 1) := by decide +kernel
theorem d_M_share_136 : decode b_M_share 136 = .ok (.iadd, 1) := by decide +kernel
theorem d_M_share_137 : decode b_M_share 137 = .ok (.istore 4, 2) := by decide +kernel
theorem d_M_share_139 : decode b_M_share 139 = .ok (.iinc 5 1, 3) := by decide +kernel
theorem d_M_share_142 : decode b_M_share 142 = .ok (.goto (-71), 3) := by decide +kernel
theorem d_M_share_145 : decode b_M_share 145 = .ok (.iload 4, 2) := by decide +kernel
theorem d_M_share_147 : decode b_M_share 147 = .ok (.aload_n 0, 1) := by decide +kernel
theorem d_M_share_148 : decode b_M_share 148 = .ok (.getfield 51, 3) := by decide +kernel
theorem d_M_share_151 : decode b_M_share 151 = .ok (.invokestatic 182, 3) := by decide +kernel
theorem d_M_share_154 : decode b_M_share 154 = .ok (.iload_n 3, 1) := by decide +kernel
theorem d_M_share_155 : decode b_M_share 155 = .ok (.invokestatic 185, 3) := by decide +kernel
theorem d_M_share_158 : decode b_M_share 158 = .ok (.ireturn, 1) := by decide +kernel
abbrev b_M_gainOf : ByteArray := prog_5_method_58_code
def y_M_gainOf : MethodName := ⟨R_M, "gainOf", "(IIIII)I"⟩
theorem mc_M_gainOf : Cond.code y_M_gainOf b_M_gainOf 7 (Option.some .int) ∈ lw_use := g_use (List.mem_of_getElem? (i := 772) (by decide +kernel)) rfl
theorem d_M_gainOf_0 : decode b_M_gainOf 0 = .ok (.aload_n 0, 1) := by decide +kernel
theorem d_M_gainOf_1 : decode b_M_gainOf 1 = .ok (.invokevirtual 167, 3) := by decide +kernel
theorem d_M_gainOf_4 : decode b_M_gainOf 4 = .ok (.aload_n 0, 1) := by decide +kernel
theorem d_M_gainOf_5 : decode b_M_gainOf 5 = .ok (.getfield 28, 3) := by decide +kernel
theorem d_M_gainOf_8 : decode b_M_gainOf 8 = .ok (.iconst 0, 1) := by decide +kernel
theorem d_M_gainOf_9 : decode b_M_gainOf 9 = .ok (.iload 4, 2) := by decide +kernel
theorem d_M_gainOf_11 : decode b_M_gainOf 11 = .ok (.iadd, 1) := by decide +kernel
theorem d_M_gainOf_12 : decode b_M_gainOf 12 = .ok (.dup2, 1) := by decide +kernel
theorem d_M_gainOf_13 : decode b_M_gainOf 13 = .ok (.iaload, 1) := by decide +kernel
theorem d_M_gainOf_14 : decode b_M_gainOf 14 = .ok (.iload_n 2, 1) := by decide +kernel
theorem d_M_gainOf_15 : decode b_M_gainOf 15 = .ok (.iload_n 3, 1) := by decide +kernel
theorem d_M_gainOf_16 : decode b_M_gainOf 16 = .ok (.iadd, 1) := by decide +kernel
theorem d_M_gainOf_17 : decode b_M_gainOf 17 = .ok (.iadd, 1) := by decide +kernel
theorem d_M_gainOf_18 : decode b_M_gainOf 18 = .ok (.iastore, 1) := by decide +kernel
theorem d_M_gainOf_19 : decode b_M_gainOf 19 = .ok (.aload_n 0, 1) := by decide +kernel
theorem d_M_gainOf_20 : decode b_M_gainOf 20 = .ok (.aload_n 0, 1) := by decide +kernel
theorem d_M_gainOf_21 : decode b_M_gainOf 21 = .ok (.getfield 28, 3) := by decide +kernel
theorem d_M_gainOf_24 : decode b_M_gainOf 24 = .ok (.aload_n 0, 1) := by decide +kernel
theorem d_M_gainOf_25 : decode b_M_gainOf 25 = .ok (.aload_n 0, 1) := by decide +kernel
theorem d_M_gainOf_26 : decode b_M_gainOf 26 = .ok (.getfield 28, 3) := by decide +kernel
theorem d_M_gainOf_29 : decode b_M_gainOf 29 = .ok (.iload 5, 2) := by decide +kernel
theorem d_M_gainOf_31 : decode b_M_gainOf 31 = .ok (.invokevirtual 105, 3) := by decide +kernel
theorem d_M_gainOf_34 : decode b_M_gainOf 34 = .ok (.invokevirtual 128, 3) := by decide +kernel
theorem d_M_gainOf_37 : decode b_M_gainOf 37 = .ok (.istore 6, 2) := by decide +kernel
theorem d_M_gainOf_39 : decode b_M_gainOf 39 = .ok (.iload 6, 2) := by decide +kernel
theorem d_M_gainOf_41 : decode b_M_gainOf 41 = .ok (.iload_n 1, 1) := by decide +kernel
theorem d_M_gainOf_42 : decode b_M_gainOf 42 = .ok (.invokestatic 78, 3) := by decide +kernel
theorem d_M_gainOf_45 : decode b_M_gainOf 45 = .ok (.ifCond .eq 7, 3) := by decide +kernel
theorem d_M_gainOf_48 : decode b_M_gainOf 48 = .ok (.iconst 0, 1) := by decide +kernel
theorem d_M_gainOf_49 : decode b_M_gainOf 49 = .ok (.goto 9, 3) := by decide +kernel
theorem d_M_gainOf_52 : decode b_M_gainOf 52 = .ok (.aload_n 0, 1) := by decide +kernel
theorem d_M_gainOf_53 : decode b_M_gainOf 53 = .ok (.getfield 16, 3) := by decide +kernel
theorem d_M_gainOf_56 : decode b_M_gainOf 56 = .ok (.iload_n 1, 1) := by decide +kernel
theorem d_M_gainOf_57 : decode b_M_gainOf 57 = .ok (.iaload, 1) := by decide +kernel
theorem d_M_gainOf_58 : decode b_M_gainOf 58 = .ok (.iload_n 2, 1) := by decide +kernel
theorem d_M_gainOf_59 : decode b_M_gainOf 59 = .ok (.isub, 1) := by decide +kernel
theorem d_M_gainOf_60 : decode b_M_gainOf 60 = .ok (.ireturn, 1) := by decide +kernel
abbrev b_M_findRests : ByteArray := prog_5_method_59_code
def y_M_findRests : MethodName := ⟨R_M, "findRests", "(IIII)V"⟩
theorem mc_M_findRests : Cond.code y_M_findRests b_M_findRests 11 none ∈ lw_use := g_use (List.mem_of_getElem? (i := 768) (by decide +kernel)) rfl
theorem d_M_findRests_0 : decode b_M_findRests 0 = .ok (.aload_n 0, 1) := by decide +kernel
theorem d_M_findRests_1 : decode b_M_findRests 1 = .ok (.iconst 0, 1) := by decide +kernel
theorem d_M_findRests_2 : decode b_M_findRests 2 = .ok (.putfield 189, 3) := by decide +kernel
theorem d_M_findRests_5 : decode b_M_findRests 5 = .ok (.aload_n 0, 1) := by decide +kernel
theorem d_M_findRests_6 : decode b_M_findRests 6 = .ok (.bipush (-9), 2) := by decide +kernel
theorem d_M_findRests_8 : decode b_M_findRests 8 = .ok (.putfield 192, 3) := by decide +kernel
theorem d_M_findRests_11 : decode b_M_findRests 11 = .ok (.iconst 0, 1) := by decide +kernel
theorem d_M_findRests_12 : decode b_M_findRests 12 = .ok (.istore 5, 2) := by decide +kernel
theorem d_M_findRests_14 : decode b_M_findRests 14 = .ok (.iload 5, 2) := by decide +kernel
theorem d_M_findRests_16 : decode b_M_findRests 16 = .ok (.iconst 4, 1) := by decide +kernel
theorem d_M_findRests_17 : decode b_M_findRests 17 = .ok (.if_icmp .ge 166, 3) := by decide +kernel
theorem d_M_findRests_20 : decode b_M_findRests 20 = .ok (.iconst 0, 1) := by decide +kernel
theorem d_M_findRests_21 : decode b_M_findRests 21 = .ok (.istore 6, 2) := by decide +kernel
theorem d_M_findRests_23 : decode b_M_findRests 23 = .ok (.iload 6, 2) := by decide +kernel
theorem d_M_findRests_25 : decode b_M_findRests 25 = .ok (.iconst 4, 1) := by decide +kernel
theorem d_M_findRests_26 : decode b_M_findRests 26 = .ok (.if_icmp .ge 151, 3) := by decide +kernel
theorem d_M_findRests_29 : decode b_M_findRests 29 = .ok (.aload_n 0, 1) := by decide +kernel
theorem d_M_findRests_30 : decode b_M_findRests 30 = .ok (.iload_n 1, 1) := by decide +kernel
theorem d_M_findRests_31 : decode b_M_findRests 31 = .ok (.iload 5, 2) := by decide +kernel
theorem d_M_findRests_33 : decode b_M_findRests 33 = .ok (.iload 6, 2) := by decide +kernel
theorem d_M_findRests_35 : decode b_M_findRests 35 = .ok (.iload_n 3, 1) := by decide +kernel
theorem d_M_findRests_36 : decode b_M_findRests 36 = .ok (.iload 4, 2) := by decide +kernel
theorem d_M_findRests_38 : decode b_M_findRests 38 = .ok (.invokevirtual 195, 3) := by decide +kernel
theorem d_M_findRests_41 : decode b_M_findRests 41 = .ok (.istore 7, 2) := by decide +kernel
theorem d_M_findRests_43 : decode b_M_findRests 43 = .ok (.aload_n 0, 1) := by decide +kernel
theorem d_M_findRests_44 : decode b_M_findRests 44 = .ok (.iload_n 2, 1) := by decide +kernel
theorem d_M_findRests_45 : decode b_M_findRests 45 = .ok (.iload 6, 2) := by decide +kernel
theorem d_M_findRests_47 : decode b_M_findRests 47 = .ok (.iload 5, 2) := by decide +kernel
theorem d_M_findRests_49 : decode b_M_findRests 49 = .ok (.iload_n 3, 1) := by decide +kernel
theorem d_M_findRests_50 : decode b_M_findRests 50 = .ok (.iload 4, 2) := by decide +kernel
theorem d_M_findRests_52 : decode b_M_findRests 52 = .ok (.invokevirtual 195, 3) := by decide +kernel
theorem d_M_findRests_55 : decode b_M_findRests 55 = .ok (.istore 8, 2) := by decide +kernel
theorem d_M_findRests_57 : decode b_M_findRests 57 = .ok (.iconst 1, 1) := by decide +kernel
theorem d_M_findRests_58 : decode b_M_findRests 58 = .ok (.istore 9, 2) := by decide +kernel
theorem d_M_findRests_60 : decode b_M_findRests 60 = .ok (.iconst 0, 1) := by decide +kernel
theorem d_M_findRests_61 : decode b_M_findRests 61 = .ok (.istore 10, 2) := by decide +kernel
theorem d_M_findRests_63 : decode b_M_findRests 63 = .ok (.iload 10, 2) := by decide +kernel
theorem d_M_findRests_65 : decode b_M_findRests 65 = .ok (.iconst 4, 1) := by decide +kernel
theorem d_M_findRests_66 : decode b_M_findRests 66 = .ok (.if_icmp .ge 55, 3) := by decide +kernel
theorem d_M_findRests_69 : decode b_M_findRests 69 = .ok (.iload 9, 2) := by decide +kernel
theorem d_M_findRests_71 : decode b_M_findRests 71 = .ok (.ifCond .eq 41, 3) := by decide +kernel
theorem d_M_findRests_74 : decode b_M_findRests 74 = .ok (.aload_n 0, 1) := by decide +kernel
theorem d_M_findRests_75 : decode b_M_findRests 75 = .ok (.iload_n 1, 1) := by decide +kernel
theorem d_M_findRests_76 : decode b_M_findRests 76 = .ok (.iload 10, 2) := by decide +kernel
theorem d_M_findRests_78 : decode b_M_findRests 78 = .ok (.iload 6, 2) := by decide +kernel
theorem d_M_findRests_80 : decode b_M_findRests 80 = .ok (.iload_n 3, 1) := by decide +kernel
theorem d_M_findRests_81 : decode b_M_findRests 81 = .ok (.iload 4, 2) := by decide +kernel
theorem d_M_findRests_83 : decode b_M_findRests 83 = .ok (.invokevirtual 195, 3) := by decide +kernel
theorem d_M_findRests_86 : decode b_M_findRests 86 = .ok (.iload 7, 2) := by decide +kernel
theorem d_M_findRests_88 : decode b_M_findRests 88 = .ok (.if_icmp .gt 24, 3) := by decide +kernel
theorem d_M_findRests_91 : decode b_M_findRests 91 = .ok (.aload_n 0, 1) := by decide +kernel
theorem d_M_findRests_92 : decode b_M_findRests 92 = .ok (.iload_n 2, 1) := by decide +kernel
theorem d_M_findRests_93 : decode b_M_findRests 93 = .ok (.iload 10, 2) := by decide +kernel
theorem d_M_findRests_95 : decode b_M_findRests 95 = .ok (.iload 5, 2) := by decide +kernel
theorem d_M_findRests_97 : decode b_M_findRests 97 = .ok (.iload_n 3, 1) := by decide +kernel
theorem d_M_findRests_98 : decode b_M_findRests 98 = .ok (.iload 4, 2) := by decide +kernel
theorem d_M_findRests_100 : decode b_M_findRests 100 = .ok (.invokevirtual 195, 3) := by decide +kernel
theorem d_M_findRests_103 : decode b_M_findRests 103 = .ok (.iload 8, 2) := by decide +kernel
theorem d_M_findRests_105 : decode b_M_findRests 105 = .ok (.if_icmp .gt 7, 3) := by decide +kernel
theorem d_M_findRests_108 : decode b_M_findRests 108 = .ok (.iconst 1, 1) := by decide +kernel
theorem d_M_findRests_109 : decode b_M_findRests 109 = .ok (.goto 4, 3) := by decide +kernel
theorem d_M_findRests_112 : decode b_M_findRests 112 = .ok (.iconst 0, 1) := by decide +kernel
theorem d_M_findRests_113 : decode b_M_findRests 113 = .ok (.istore 9, 2) := by decide +kernel
theorem d_M_findRests_115 : decode b_M_findRests 115 = .ok (.iinc 10 1, 3) := by decide +kernel
theorem d_M_findRests_118 : decode b_M_findRests 118 = .ok (.goto (-55), 3) := by decide +kernel
theorem d_M_findRests_121 : decode b_M_findRests 121 = .ok (.aload_n 0, 1) := by decide +kernel
theorem d_M_findRests_122 : decode b_M_findRests 122 = .ok (.iload 9, 2) := by decide +kernel
theorem d_M_findRests_124 : decode b_M_findRests 124 = .ok (.ifCond .eq 21, 3) := by decide +kernel
theorem d_M_findRests_127 : decode b_M_findRests 127 = .ok (.aload_n 0, 1) := by decide +kernel
theorem d_M_findRests_128 : decode b_M_findRests 128 = .ok (.getfield 189, 3) := by decide +kernel
theorem d_M_findRests_131 : decode b_M_findRests 131 = .ok (.ifCond .ne 14, 3) := by decide +kernel
theorem d_M_findRests_134 : decode b_M_findRests 134 = .ok (.bipush 10, 2) := by decide +kernel
theorem d_M_findRests_136 : decode b_M_findRests 136 = .ok (.iload 5, 2) := by decide +kernel
theorem d_M_findRests_138 : decode b_M_findRests 138 = .ok (.imul, 1) := by decide +kernel
theorem d_M_findRests_139 : decode b_M_findRests 139 = .ok (.iload 6, 2) := by decide +kernel
theorem d_M_findRests_141 : decode b_M_findRests 141 = .ok (.iadd, 1) := by decide +kernel
theorem d_M_findRests_142 : decode b_M_findRests 142 = .ok (.goto 7, 3) := by decide +kernel
theorem d_M_findRests_145 : decode b_M_findRests 145 = .ok (.aload_n 0, 1) := by decide +kernel
theorem d_M_findRests_146 : decode b_M_findRests 146 = .ok (.getfield 192, 3) := by decide +kernel
theorem d_M_findRests_149 : decode b_M_findRests 149 = .ok (.putfield 192, 3) := by decide +kernel
theorem d_M_findRests_152 : decode b_M_findRests 152 = .ok (.aload_n 0, 1) := by decide +kernel
theorem d_M_findRests_153 : decode b_M_findRests 153 = .ok (.dup, 1) := by decide +kernel
theorem d_M_findRests_154 : decode b_M_findRests 154 = .ok (.getfield 189, 3) := by decide +kernel
theorem d_M_findRests_157 : decode b_M_findRests 157 = .ok (.iload 9, 2) := by decide +kernel
theorem d_M_findRests_159 : decode b_M_findRests 159 = .ok (.ifCond .eq 7, 3) := by decide +kernel
theorem d_M_findRests_162 : decode b_M_findRests 162 = .ok (.iconst 1, 1) := by decide +kernel
theorem d_M_findRests_163 : decode b_M_findRests 163 = .ok (.goto 4, 3) := by decide +kernel
theorem d_M_findRests_166 : decode b_M_findRests 166 = .ok (.iconst 0, 1) := by decide +kernel
theorem d_M_findRests_167 : decode b_M_findRests 167 = .ok (.iadd, 1) := by decide +kernel
theorem d_M_findRests_168 : decode b_M_findRests 168 = .ok (.putfield 189, 3) := by decide +kernel
theorem d_M_findRests_171 : decode b_M_findRests 171 = .ok (.iinc 6 1, 3) := by decide +kernel
theorem d_M_findRests_174 : decode b_M_findRests 174 = .ok (.goto (-151), 3) := by decide +kernel
theorem d_M_findRests_177 : decode b_M_findRests 177 = .ok (.iinc 5 1, 3) := by decide +kernel
theorem d_M_findRests_180 : decode b_M_findRests 180 = .ok (.goto (-166), 3) := by decide +kernel
theorem d_M_findRests_183 : decode b_M_findRests 183 = .ok (.return_, 1) := by decide +kernel
abbrev b_M_rests : ByteArray := prog_5_method_60_code
def y_M_rests : MethodName := ⟨R_M, "rests", "(IIIII)I"⟩
theorem mc_M_rests : Cond.code y_M_rests b_M_rests 6 (Option.some .int) ∈ lw_use := g_use (List.mem_of_getElem? (i := 764) (by decide +kernel)) rfl
theorem d_M_rests_0 : decode b_M_rests 0 = .ok (.aload_n 0, 1) := by decide +kernel
theorem d_M_rests_1 : decode b_M_rests 1 = .ok (.iconst 0, 1) := by decide +kernel
theorem d_M_rests_2 : decode b_M_rests 2 = .ok (.putfield 47, 3) := by decide +kernel
theorem d_M_rests_5 : decode b_M_rests 5 = .ok (.aload_n 0, 1) := by decide +kernel
theorem d_M_rests_6 : decode b_M_rests 6 = .ok (.iload_n 1, 1) := by decide +kernel
theorem d_M_rests_7 : decode b_M_rests 7 = .ok (.invokevirtual 115, 3) := by decide +kernel
theorem d_M_rests_10 : decode b_M_rests 10 = .ok (.ifCond .ne 19, 3) := by decide +kernel
theorem d_M_rests_13 : decode b_M_rests 13 = .ok (.aload_n 0, 1) := by decide +kernel
theorem d_M_rests_14 : decode b_M_rests 14 = .ok (.iload_n 2, 1) := by decide +kernel
theorem d_M_rests_15 : decode b_M_rests 15 = .ok (.invokevirtual 115, 3) := by decide +kernel
theorem d_M_rests_18 : decode b_M_rests 18 = .ok (.ifCond .ne 11, 3) := by decide +kernel
theorem d_M_rests_21 : decode b_M_rests 21 = .ok (.aload_n 0, 1) := by decide +kernel
theorem d_M_rests_22 : decode b_M_rests 22 = .ok (.iload_n 3, 1) := by decide +kernel
theorem d_M_rests_23 : decode b_M_rests 23 = .ok (.invokevirtual 115, 3) := by decide +kernel
theorem d_M_rests_26 : decode b_M_rests 26 = .ok (.ifCond .eq 5, 3) := by decide +kernel
theorem d_M_rests_29 : decode b_M_rests 29 = .ok (.iconst (-1), 1) := by decide +kernel
theorem d_M_rests_30 : decode b_M_rests 30 = .ok (.ireturn, 1) := by decide +kernel
theorem d_M_rests_31 : decode b_M_rests 31 = .ok (.iload_n 1, 1) := by decide +kernel
theorem d_M_rests_32 : decode b_M_rests 32 = .ok (.iload_n 2, 1) := by decide +kernel
theorem d_M_rests_33 : decode b_M_rests 33 = .ok (.if_icmp .eq 22, 3) := by decide +kernel
theorem d_M_rests_36 : decode b_M_rests 36 = .ok (.iload 4, 2) := by decide +kernel
theorem d_M_rests_38 : decode b_M_rests 38 = .ok (.invokestatic 119, 3) := by decide +kernel
theorem d_M_rests_41 : decode b_M_rests 41 = .ok (.ifCond .ne 14, 3) := by decide +kernel
theorem d_M_rests_44 : decode b_M_rests 44 = .ok (.iload 5, 2) := by decide +kernel
theorem d_M_rests_46 : decode b_M_rests 46 = .ok (.i2l, 1) := by decide +kernel
theorem d_M_rests_47 : decode b_M_rests 47 = .ok (.lconst 0, 1) := by decide +kernel
theorem d_M_rests_48 : decode b_M_rests 48 = .ok (.lconst 1, 1) := by decide +kernel
theorem d_M_rests_49 : decode b_M_rests 49 = .ok (.invokestatic 54, 3) := by decide +kernel
theorem d_M_rests_52 : decode b_M_rests 52 = .ok (.ifCond .ne 6, 3) := by decide +kernel
theorem d_M_rests_55 : decode b_M_rests 55 = .ok (.bipush (-2), 2) := by decide +kernel
theorem d_M_rests_57 : decode b_M_rests 57 = .ok (.ireturn, 1) := by decide +kernel
theorem d_M_rests_58 : decode b_M_rests 58 = .ok (.aload_n 0, 1) := by decide +kernel
theorem d_M_rests_59 : decode b_M_rests 59 = .ok (.iload_n 1, 1) := by decide +kernel
theorem d_M_rests_60 : decode b_M_rests 60 = .ok (.iload_n 2, 1) := by decide +kernel
theorem d_M_rests_61 : decode b_M_rests 61 = .ok (.iload_n 3, 1) := by decide +kernel
theorem d_M_rests_62 : decode b_M_rests 62 = .ok (.iload 4, 2) := by decide +kernel
theorem d_M_rests_64 : decode b_M_rests 64 = .ok (.invokevirtual 199, 3) := by decide +kernel
theorem d_M_rests_67 : decode b_M_rests 67 = .ok (.iload 5, 2) := by decide +kernel
theorem d_M_rests_69 : decode b_M_rests 69 = .ok (.ifCond .ne 10, 3) := by decide +kernel
theorem d_M_rests_72 : decode b_M_rests 72 = .ok (.aload_n 0, 1) := by decide +kernel
theorem d_M_rests_73 : decode b_M_rests 73 = .ok (.getfield 189, 3) := by decide +kernel
theorem d_M_rests_76 : decode b_M_rests 76 = .ok (.goto 7, 3) := by decide +kernel
theorem d_M_rests_79 : decode b_M_rests 79 = .ok (.aload_n 0, 1) := by decide +kernel
theorem d_M_rests_80 : decode b_M_rests 80 = .ok (.getfield 192, 3) := by decide +kernel
theorem d_M_rests_83 : decode b_M_rests 83 = .ok (.ireturn, 1) := by decide +kernel
abbrev b_M_threes : ByteArray := prog_5_method_61_code
def y_M_threes : MethodName := ⟨R_M, "threes", "(IIIIZ)I"⟩
theorem mc_M_threes : Cond.code y_M_threes b_M_threes 12 (Option.some .int) ∈ lw_use := g_use (List.mem_of_getElem? (i := 776) (by decide +kernel)) rfl
theorem d_M_threes_0 : decode b_M_threes 0 = .ok (.aload_n 0, 1) := by decide +kernel
theorem d_M_threes_1 : decode b_M_threes 1 = .ok (.iconst 0, 1) := by decide +kernel
theorem d_M_threes_2 : decode b_M_threes 2 = .ok (.putfield 47, 3) := by decide +kernel
theorem d_M_threes_5 : decode b_M_threes 5 = .ok (.aload_n 0, 1) := by decide +kernel
theorem d_M_threes_6 : decode b_M_threes 6 = .ok (.iload_n 1, 1) := by decide +kernel
theorem d_M_threes_7 : decode b_M_threes 7 = .ok (.invokevirtual 115, 3) := by decide +kernel
theorem d_M_threes_10 : decode b_M_threes 10 = .ok (.ifCond .eq 5, 3) := by decide +kernel
theorem d_M_threes_13 : decode b_M_threes 13 = .ok (.iconst (-1), 1) := by decide +kernel
theorem d_M_threes_14 : decode b_M_threes 14 = .ok (.ireturn, 1) := by decide +kernel
theorem d_M_threes_15 : decode b_M_threes 15 = .ok (.iload_n 2, 1) := by decide +kernel
theorem d_M_threes_16 : decode b_M_threes 16 = .ok (.invokestatic 119, 3) := by decide +kernel
theorem d_M_threes_19 : decode b_M_threes 19 = .ok (.ifCond .ne 23, 3) := by decide +kernel
theorem d_M_threes_22 : decode b_M_threes 22 = .ok (.iload_n 3, 1) := by decide +kernel
theorem d_M_threes_23 : decode b_M_threes 23 = .ok (.invokestatic 119, 3) := by decide +kernel
theorem d_M_threes_26 : decode b_M_threes 26 = .ok (.ifCond .ne 16, 3) := by decide +kernel
theorem d_M_threes_29 : decode b_M_threes 29 = .ok (.iload 4, 2) := by decide +kernel
theorem d_M_threes_31 : decode b_M_threes 31 = .ok (.i2l, 1) := by decide +kernel
theorem d_M_threes_32 : decode b_M_threes 32 = .ok (.lconst 0, 1) := by decide +kernel
theorem d_M_threes_33 : decode b_M_threes 33 = .ok (.ldc2_w 203, 3) := by decide +kernel
theorem d_M_threes_36 : decode b_M_threes 36 = .ok (.invokestatic 54, 3) := by decide +kernel
theorem d_M_threes_39 : decode b_M_threes 39 = .ok (.ifCond .ne 6, 3) := by decide +kernel
theorem d_M_threes_42 : decode b_M_threes 42 = .ok (.bipush (-2), 2) := by decide +kernel
theorem d_M_threes_44 : decode b_M_threes 44 = .ok (.ireturn, 1) := by decide +kernel
theorem d_M_threes_45 : decode b_M_threes 45 = .ok (.iconst 0, 1) := by decide +kernel
theorem d_M_threes_46 : decode b_M_threes 46 = .ok (.istore 6, 2) := by decide +kernel
theorem d_M_threes_48 : decode b_M_threes 48 = .ok (.iconst 0, 1) := by decide +kernel
theorem d_M_threes_49 : decode b_M_threes 49 = .ok (.istore 7, 2) := by decide +kernel
theorem d_M_threes_51 : decode b_M_threes 51 = .ok (.iload 7, 2) := by decide +kernel
theorem d_M_threes_53 : decode b_M_threes 53 = .ok (.bipush 8, 2) := by decide +kernel
theorem d_M_threes_55 : decode b_M_threes 55 = .ok (.if_icmp .ge 116, 3) := by decide +kernel
theorem d_M_threes_58 : decode b_M_threes 58 = .ok (.iconst 1, 1) := by decide +kernel
theorem d_M_threes_59 : decode b_M_threes 59 = .ok (.istore 8, 2) := by decide +kernel
theorem d_M_threes_61 : decode b_M_threes 61 = .ok (.iconst 1, 1) := by decide +kernel
theorem d_M_threes_62 : decode b_M_threes 62 = .ok (.istore 9, 2) := by decide +kernel
theorem d_M_threes_64 : decode b_M_threes 64 = .ok (.aload_n 0, 1) := by decide +kernel
theorem d_M_threes_65 : decode b_M_threes 65 = .ok (.invokevirtual 167, 3) := by decide +kernel
theorem d_M_threes_68 : decode b_M_threes 68 = .ok (.iconst 0, 1) := by decide +kernel
theorem d_M_threes_69 : decode b_M_threes 69 = .ok (.istore 10, 2) := by decide +kernel
theorem d_M_threes_71 : decode b_M_threes 71 = .ok (.iload 10, 2) := by decide +kernel
theorem d_M_threes_73 : decode b_M_threes 73 = .ok (.iconst 3, 1) := by decide +kernel
theorem d_M_threes_74 : decode b_M_threes 74 = .ok (.if_icmp .ge 75, 3) := by decide +kernel
theorem d_M_threes_77 : decode b_M_threes 77 = .ok (.iload 7, 2) := by decide +kernel
theorem d_M_threes_79 : decode b_M_threes 79 = .ok (.iload 10, 2) := by decide +kernel
theorem d_M_threes_81 : decode b_M_threes 81 = .ok (.invokestatic 78, 3) := by decide +kernel
theorem d_M_threes_84 : decode b_M_threes 84 = .ok (.istore 11, 2) := by decide +kernel
theorem d_M_threes_86 : decode b_M_threes 86 = .ok (.iload 8, 2) := by decide +kernel
theorem d_M_threes_88 : decode b_M_threes 88 = .ok (.iload 11, 2) := by decide +kernel
theorem d_M_threes_90 : decode b_M_threes 90 = .ok (.ifCond .eq 8, 3) := by decide +kernel
theorem d_M_threes_93 : decode b_M_threes 93 = .ok (.iload 4, 2) := by decide +kernel
theorem d_M_threes_95 : decode b_M_threes 95 = .ok (.goto 8, 3) := by decide +kernel
theorem d_M_threes_98 : decode b_M_threes 98 = .ok (.bipush 10, 2) := by decide +kernel
theorem d_M_threes_100 : decode b_M_threes 100 = .ok (.iload 4, 2) := by decide +kernel
theorem d_M_threes_102 : decode b_M_threes 102 = .ok (.isub, 1) := by decide +kernel
theorem d_M_threes_103 : decode b_M_threes 103 = .ok (.imul, 1) := by decide +kernel
theorem d_M_threes_104 : decode b_M_threes 104 = .ok (.istore 8, 2) := by decide +kernel
theorem d_M_threes_106 : decode b_M_threes 106 = .ok (.aload_n 0, 1) := by decide +kernel
theorem d_M_threes_107 : decode b_M_threes 107 = .ok (.aload_n 0, 1) := by decide +kernel
theorem d_M_threes_108 : decode b_M_threes 108 = .ok (.getfield 28, 3) := by decide +kernel
theorem d_M_threes_111 : decode b_M_threes 111 = .ok (.iload 11, 2) := by decide +kernel
theorem d_M_threes_113 : decode b_M_threes 113 = .ok (.ifCond .eq 7, 3) := by decide +kernel
theorem d_M_threes_116 : decode b_M_threes 116 = .ok (.iload_n 2, 1) := by decide +kernel
theorem d_M_threes_117 : decode b_M_threes 117 = .ok (.goto 4, 3) := by decide +kernel
theorem d_M_threes_120 : decode b_M_threes 120 = .ok (.iload_n 3, 1) := by decide +kernel
theorem d_M_threes_121 : decode b_M_threes 121 = .ok (.invokevirtual 125, 3) := by decide +kernel
theorem d_M_threes_124 : decode b_M_threes 124 = .ok (.iload_n 1, 1) := by decide +kernel
theorem d_M_threes_125 : decode b_M_threes 125 = .ok (.invokestatic 78, 3) := by decide +kernel
theorem d_M_threes_128 : decode b_M_threes 128 = .ok (.ifCond .ne 12, 3) := by decide +kernel
theorem d_M_threes_131 : decode b_M_threes 131 = .ok (.iload 9, 2) := by decide +kernel
theorem d_M_threes_133 : decode b_M_threes 133 = .ok (.ifCond .eq 7, 3) := by decide +kernel
theorem d_M_threes_136 : decode b_M_threes 136 = .ok (.iconst 1, 1) := by decide +kernel
theorem d_M_threes_137 : decode b_M_threes 137 = .ok (.goto 4, 3) := by decide +kernel
theorem d_M_threes_140 : decode b_M_threes 140 = .ok (.iconst 0, 1) := by decide +kernel
theorem d_M_threes_141 : decode b_M_threes 141 = .ok (.istore 9, 2) := by decide +kernel
theorem d_M_threes_143 : decode b_M_threes 143 = .ok (.iinc 10 1, 3) := by decide +kernel
theorem d_M_threes_146 : decode b_M_threes 146 = .ok (.goto (-75), 3) := by decide +kernel
theorem d_M_threes_149 : decode b_M_threes 149 = .ok (.iload 6, 2) := by decide +kernel
theorem d_M_threes_151 : decode b_M_threes 151 = .ok (.iload 9, 2) := by decide +kernel
theorem d_M_threes_153 : decode b_M_threes 153 = .ok (.ifCond .eq 8, 3) := by decide +kernel
theorem d_M_threes_156 : decode b_M_threes 156 = .ok (.iload 8, 2) := by decide +kernel
theorem d_M_threes_158 : decode b_M_threes 158 = .ok (.goto 4, 3) := by decide +kernel
theorem d_M_threes_161 : decode b_M_threes 161 = .ok (.iconst 0, 1) := by decide +kernel
theorem d_M_threes_162 : decode b_M_threes 162 = .ok (.iadd, 1) := by decide +kernel
theorem d_M_threes_163 : decode b_M_threes 163 = .ok (.istore 6, 2) := by decide +kernel
theorem d_M_threes_165 : decode b_M_threes 165 = .ok (.iinc 7 1, 3) := by decide +kernel
theorem d_M_threes_168 : decode b_M_threes 168 = .ok (.goto (-117), 3) := by decide +kernel
theorem d_M_threes_171 : decode b_M_threes 171 = .ok (.iload 6, 2) := by decide +kernel
theorem d_M_threes_173 : decode b_M_threes 173 = .ok (.sipush 1000, 3) := by decide +kernel
theorem d_M_threes_176 : decode b_M_threes 176 = .ok (.iload 5, 2) := by decide +kernel
theorem d_M_threes_178 : decode b_M_threes 178 = .ok (.invokestatic 185, 3) := by decide +kernel
theorem d_M_threes_181 : decode b_M_threes 181 = .ok (.ireturn, 1) := by decide +kernel
abbrev b_M_seed : ByteArray := prog_5_method_62_code
def y_M_seed : MethodName := ⟨R_M, "seed", "(J)J"⟩
theorem mc_M_seed : Cond.code y_M_seed b_M_seed 5 (Option.some .long) ∈ lw_use := g_use (List.mem_of_getElem? (i := 781) (by decide +kernel)) rfl
theorem d_M_seed_0 : decode b_M_seed 0 = .ok (.aload_n 0, 1) := by decide +kernel
theorem d_M_seed_1 : decode b_M_seed 1 = .ok (.iconst 0, 1) := by decide +kernel
theorem d_M_seed_2 : decode b_M_seed 2 = .ok (.putfield 47, 3) := by decide +kernel
theorem d_M_seed_5 : decode b_M_seed 5 = .ok (.aload_n 0, 1) := by decide +kernel
theorem d_M_seed_6 : decode b_M_seed 6 = .ok (.getfield 205, 3) := by decide +kernel
theorem d_M_seed_9 : decode b_M_seed 9 = .ok (.lstore_n 3, 1) := by decide +kernel
theorem d_M_seed_10 : decode b_M_seed 10 = .ok (.aload_n 0, 1) := by decide +kernel
theorem d_M_seed_11 : decode b_M_seed 11 = .ok (.lload_n 1, 1) := by decide +kernel
theorem d_M_seed_12 : decode b_M_seed 12 = .ok (.putfield 205, 3) := by decide +kernel
theorem d_M_seed_15 : decode b_M_seed 15 = .ok (.lload_n 3, 1) := by decide +kernel
theorem d_M_seed_16 : decode b_M_seed 16 = .ok (.lreturn, 1) := by decide +kernel
abbrev b_M_winters : ByteArray := prog_5_method_63_code
def y_M_winters : MethodName := ⟨R_M, "winters", "(I)I"⟩
theorem mc_M_winters : Cond.code y_M_winters b_M_winters 4 (Option.some .int) ∈ lw_use := g_use (List.mem_of_getElem? (i := 785) (by decide +kernel)) rfl
theorem d_M_winters_0 : decode b_M_winters 0 = .ok (.aload_n 0, 1) := by decide +kernel
theorem d_M_winters_1 : decode b_M_winters 1 = .ok (.iconst 0, 1) := by decide +kernel
theorem d_M_winters_2 : decode b_M_winters 2 = .ok (.putfield 47, 3) := by decide +kernel
theorem d_M_winters_5 : decode b_M_winters 5 = .ok (.iload_n 1, 1) := by decide +kernel
theorem d_M_winters_6 : decode b_M_winters 6 = .ok (.i2l, 1) := by decide +kernel
theorem d_M_winters_7 : decode b_M_winters 7 = .ok (.lconst 1, 1) := by decide +kernel
theorem d_M_winters_8 : decode b_M_winters 8 = .ok (.ldc2_w 58, 3) := by decide +kernel
theorem d_M_winters_11 : decode b_M_winters 11 = .ok (.invokestatic 54, 3) := by decide +kernel
theorem d_M_winters_14 : decode b_M_winters 14 = .ok (.ifCond .ne 6, 3) := by decide +kernel
theorem d_M_winters_17 : decode b_M_winters 17 = .ok (.bipush (-2), 2) := by decide +kernel
theorem d_M_winters_19 : decode b_M_winters 19 = .ok (.ireturn, 1) := by decide +kernel
theorem d_M_winters_20 : decode b_M_winters 20 = .ok (.aload_n 0, 1) := by decide +kernel
theorem d_M_winters_21 : decode b_M_winters 21 = .ok (.invokevirtual 167, 3) := by decide +kernel
theorem d_M_winters_24 : decode b_M_winters 24 = .ok (.iconst 0, 1) := by decide +kernel
theorem d_M_winters_25 : decode b_M_winters 25 = .ok (.istore_n 2, 1) := by decide +kernel
theorem d_M_winters_26 : decode b_M_winters 26 = .ok (.iconst 0, 1) := by decide +kernel
theorem d_M_winters_27 : decode b_M_winters 27 = .ok (.istore_n 3, 1) := by decide +kernel
theorem d_M_winters_28 : decode b_M_winters 28 = .ok (.iload_n 3, 1) := by decide +kernel
theorem d_M_winters_29 : decode b_M_winters 29 = .ok (.iload_n 1, 1) := by decide +kernel
theorem d_M_winters_30 : decode b_M_winters 30 = .ok (.if_icmp .ge 60, 3) := by decide +kernel
theorem d_M_winters_33 : decode b_M_winters 33 = .ok (.aload_n 0, 1) := by decide +kernel
theorem d_M_winters_34 : decode b_M_winters 34 = .ok (.aload_n 0, 1) := by decide +kernel
theorem d_M_winters_35 : decode b_M_winters 35 = .ok (.getfield 205, 3) := by decide +kernel
theorem d_M_winters_38 : decode b_M_winters 38 = .ok (.ldc2_w 209, 3) := by decide +kernel
theorem d_M_winters_41 : decode b_M_winters 41 = .ok (.lmul, 1) := by decide +kernel
theorem d_M_winters_42 : decode b_M_winters 42 = .ok (.ldc2_w 211, 3) := by decide +kernel
theorem d_M_winters_45 : decode b_M_winters 45 = .ok (.ladd, 1) := by decide +kernel
theorem d_M_winters_46 : decode b_M_winters 46 = .ok (.putfield 205, 3) := by decide +kernel
theorem d_M_winters_49 : decode b_M_winters 49 = .ok (.iload_n 2, 1) := by decide +kernel
theorem d_M_winters_50 : decode b_M_winters 50 = .ok (.aload_n 0, 1) := by decide +kernel
theorem d_M_winters_51 : decode b_M_winters 51 = .ok (.aload_n 0, 1) := by decide +kernel
theorem d_M_winters_52 : decode b_M_winters 52 = .ok (.aload_n 0, 1) := by decide +kernel
theorem d_M_winters_53 : decode b_M_winters 53 = .ok (.getfield 28, 3) := by decide +kernel
theorem d_M_winters_56 : decode b_M_winters 56 = .ok (.aload_n 0, 1) := by decide +kernel
theorem d_M_winters_57 : decode b_M_winters 57 = .ok (.aload_n 0, 1) := by decide +kernel
theorem d_M_winters_58 : decode b_M_winters 58 = .ok (.getfield 28, 3) := by decide +kernel
theorem d_M_winters_61 : decode b_M_winters 61 = .ok (.aload_n 0, 1) := by decide +kernel
theorem d_M_winters_62 : decode b_M_winters 62 = .ok (.getfield 205, 3) := by decide +kernel
theorem d_M_winters_65 : decode b_M_winters 65 = .ok (.bipush 33, 2) := by decide +kernel
theorem d_M_winters_67 : decode b_M_winters 67 = .ok (.lushr, 1) := by decide +kernel
theorem d_M_winters_68 : decode b_M_winters 68 = .ok (.ldc2_w 213, 3) := by decide +kernel
theorem d_M_winters_71 : decode b_M_winters 71 = .ok (.lrem, 1) := by decide +kernel
theorem d_M_winters_72 : decode b_M_winters 72 = .ok (.l2i, 1) := by decide +kernel
theorem d_M_winters_73 : decode b_M_winters 73 = .ok (.invokevirtual 125, 3) := by decide +kernel
theorem d_M_winters_76 : decode b_M_winters 76 = .ok (.invokevirtual 128, 3) := by decide +kernel
theorem d_M_winters_79 : decode b_M_winters 79 = .ok (.invokevirtual 131, 3) := by decide +kernel
theorem d_M_winters_82 : decode b_M_winters 82 = .ok (.iadd, 1) := by decide +kernel
theorem d_M_winters_83 : decode b_M_winters 83 = .ok (.istore_n 2, 1) := by decide +kernel
theorem d_M_winters_84 : decode b_M_winters 84 = .ok (.iinc 3 1, 3) := by decide +kernel
theorem d_M_winters_87 : decode b_M_winters 87 = .ok (.goto (-59), 3) := by decide +kernel
theorem d_M_winters_90 : decode b_M_winters 90 = .ok (.iload_n 2, 1) := by decide +kernel
theorem d_M_winters_91 : decode b_M_winters 91 = .ok (.ireturn, 1) := by decide +kernel
abbrev b_M_keep : ByteArray := prog_5_method_64_code
def y_M_keep : MethodName := ⟨R_M, "keep", "(I)I"⟩
theorem mc_M_keep : Cond.code y_M_keep b_M_keep 3 (Option.some .int) ∈ lw_use := g_use (List.mem_of_getElem? (i := 792) (by decide +kernel)) rfl
theorem d_M_keep_0 : decode b_M_keep 0 = .ok (.aload_n 0, 1) := by decide +kernel
theorem d_M_keep_1 : decode b_M_keep 1 = .ok (.iconst 0, 1) := by decide +kernel
theorem d_M_keep_2 : decode b_M_keep 2 = .ok (.putfield 47, 3) := by decide +kernel
theorem d_M_keep_5 : decode b_M_keep 5 = .ok (.iload_n 1, 1) := by decide +kernel
theorem d_M_keep_6 : decode b_M_keep 6 = .ok (.i2l, 1) := by decide +kernel
theorem d_M_keep_7 : decode b_M_keep 7 = .ok (.lconst 0, 1) := by decide +kernel
theorem d_M_keep_8 : decode b_M_keep 8 = .ok (.lconst 1, 1) := by decide +kernel
theorem d_M_keep_9 : decode b_M_keep 9 = .ok (.invokestatic 54, 3) := by decide +kernel
theorem d_M_keep_12 : decode b_M_keep 12 = .ok (.ifCond .ne 5, 3) := by decide +kernel
theorem d_M_keep_15 : decode b_M_keep 15 = .ok (.iconst (-1), 1) := by decide +kernel
theorem d_M_keep_16 : decode b_M_keep 16 = .ok (.ireturn, 1) := by decide +kernel
theorem d_M_keep_17 : decode b_M_keep 17 = .ok (.aload_n 0, 1) := by decide +kernel
theorem d_M_keep_18 : decode b_M_keep 18 = .ok (.getfield 37, 3) := by decide +kernel
theorem d_M_keep_21 : decode b_M_keep 21 = .ok (.iload_n 1, 1) := by decide +kernel
theorem d_M_keep_22 : decode b_M_keep 22 = .ok (.iconst 1, 1) := by decide +kernel
theorem d_M_keep_23 : decode b_M_keep 23 = .ok (.bastore, 1) := by decide +kernel
theorem d_M_keep_24 : decode b_M_keep 24 = .ok (.iconst 0, 1) := by decide +kernel
theorem d_M_keep_25 : decode b_M_keep 25 = .ok (.istore_n 2, 1) := by decide +kernel
theorem d_M_keep_26 : decode b_M_keep 26 = .ok (.iload_n 2, 1) := by decide +kernel
theorem d_M_keep_27 : decode b_M_keep 27 = .ok (.bipush 57, 2) := by decide +kernel
theorem d_M_keep_29 : decode b_M_keep 29 = .ok (.if_icmp .ge 26, 3) := by decide +kernel
theorem d_M_keep_32 : decode b_M_keep 32 = .ok (.aload_n 0, 1) := by decide +kernel
theorem d_M_keep_33 : decode b_M_keep 33 = .ok (.getfield 34, 3) := by decide +kernel
theorem d_M_keep_36 : decode b_M_keep 36 = .ok (.bipush 57, 2) := by decide +kernel
theorem d_M_keep_38 : decode b_M_keep 38 = .ok (.iload_n 1, 1) := by decide +kernel
theorem d_M_keep_39 : decode b_M_keep 39 = .ok (.imul, 1) := by decide +kernel
theorem d_M_keep_40 : decode b_M_keep 40 = .ok (.iload_n 2, 1) := by decide +kernel
theorem d_M_keep_41 : decode b_M_keep 41 = .ok (.iadd, 1) := by decide +kernel
theorem d_M_keep_42 : decode b_M_keep 42 = .ok (.aload_n 0, 1) := by decide +kernel
theorem d_M_keep_43 : decode b_M_keep 43 = .ok (.getfield 25, 3) := by decide +kernel
theorem d_M_keep_46 : decode b_M_keep 46 = .ok (.iload_n 2, 1) := by decide +kernel
theorem d_M_keep_47 : decode b_M_keep 47 = .ok (.iaload, 1) := by decide +kernel
theorem d_M_keep_48 : decode b_M_keep 48 = .ok (.iastore, 1) := by decide +kernel
theorem d_M_keep_49 : decode b_M_keep 49 = .ok (.iinc 2 1, 3) := by decide +kernel
theorem d_M_keep_52 : decode b_M_keep 52 = .ok (.goto (-26), 3) := by decide +kernel
theorem d_M_keep_55 : decode b_M_keep 55 = .ok (.aload_n 0, 1) := by decide +kernel
theorem d_M_keep_56 : decode b_M_keep 56 = .ok (.getfield 25, 3) := by decide +kernel
theorem d_M_keep_59 : decode b_M_keep 59 = .ok (.bipush 20, 2) := by decide +kernel
theorem d_M_keep_61 : decode b_M_keep 61 = .ok (.iaload, 1) := by decide +kernel
theorem d_M_keep_62 : decode b_M_keep 62 = .ok (.ireturn, 1) := by decide +kernel
abbrev b_M_again : ByteArray := prog_5_method_65_code
def y_M_again : MethodName := ⟨R_M, "again", "(I)I"⟩
theorem mc_M_again : Cond.code y_M_again b_M_again 3 (Option.some .int) ∈ lw_use := g_use (List.mem_of_getElem? (i := 796) (by decide +kernel)) rfl
theorem d_M_again_0 : decode b_M_again 0 = .ok (.aload_n 0, 1) := by decide +kernel
theorem d_M_again_1 : decode b_M_again 1 = .ok (.iconst 0, 1) := by decide +kernel
theorem d_M_again_2 : decode b_M_again 2 = .ok (.putfield 47, 3) := by decide +kernel
theorem d_M_again_5 : decode b_M_again 5 = .ok (.iload_n 1, 1) := by decide +kernel
theorem d_M_again_6 : decode b_M_again 6 = .ok (.i2l, 1) := by decide +kernel
theorem d_M_again_7 : decode b_M_again 7 = .ok (.lconst 0, 1) := by decide +kernel
theorem d_M_again_8 : decode b_M_again 8 = .ok (.lconst 1, 1) := by decide +kernel
theorem d_M_again_9 : decode b_M_again 9 = .ok (.invokestatic 54, 3) := by decide +kernel
theorem d_M_again_12 : decode b_M_again 12 = .ok (.ifCond .ne 5, 3) := by decide +kernel
theorem d_M_again_15 : decode b_M_again 15 = .ok (.iconst (-1), 1) := by decide +kernel
theorem d_M_again_16 : decode b_M_again 16 = .ok (.ireturn, 1) := by decide +kernel
theorem d_M_again_17 : decode b_M_again 17 = .ok (.aload_n 0, 1) := by decide +kernel
theorem d_M_again_18 : decode b_M_again 18 = .ok (.getfield 37, 3) := by decide +kernel
theorem d_M_again_21 : decode b_M_again 21 = .ok (.iload_n 1, 1) := by decide +kernel
theorem d_M_again_22 : decode b_M_again 22 = .ok (.baload, 1) := by decide +kernel
theorem d_M_again_23 : decode b_M_again 23 = .ok (.ifCond .ne 6, 3) := by decide +kernel
theorem d_M_again_26 : decode b_M_again 26 = .ok (.bipush (-3), 2) := by decide +kernel
theorem d_M_again_28 : decode b_M_again 28 = .ok (.ireturn, 1) := by decide +kernel
theorem d_M_again_29 : decode b_M_again 29 = .ok (.iconst 0, 1) := by decide +kernel
theorem d_M_again_30 : decode b_M_again 30 = .ok (.istore_n 2, 1) := by decide +kernel
theorem d_M_again_31 : decode b_M_again 31 = .ok (.iload_n 2, 1) := by decide +kernel
theorem d_M_again_32 : decode b_M_again 32 = .ok (.bipush 57, 2) := by decide +kernel
theorem d_M_again_34 : decode b_M_again 34 = .ok (.if_icmp .ge 26, 3) := by decide +kernel
theorem d_M_again_37 : decode b_M_again 37 = .ok (.aload_n 0, 1) := by decide +kernel
theorem d_M_again_38 : decode b_M_again 38 = .ok (.getfield 25, 3) := by decide +kernel
theorem d_M_again_41 : decode b_M_again 41 = .ok (.iload_n 2, 1) := by decide +kernel
theorem d_M_again_42 : decode b_M_again 42 = .ok (.aload_n 0, 1) := by decide +kernel
theorem d_M_again_43 : decode b_M_again 43 = .ok (.getfield 34, 3) := by decide +kernel
theorem d_M_again_46 : decode b_M_again 46 = .ok (.bipush 57, 2) := by decide +kernel
theorem d_M_again_48 : decode b_M_again 48 = .ok (.iload_n 1, 1) := by decide +kernel
theorem d_M_again_49 : decode b_M_again 49 = .ok (.imul, 1) := by decide +kernel
theorem d_M_again_50 : decode b_M_again 50 = .ok (.iload_n 2, 1) := by decide +kernel
theorem d_M_again_51 : decode b_M_again 51 = .ok (.iadd, 1) := by decide +kernel
theorem d_M_again_52 : decode b_M_again 52 = .ok (.iaload, 1) := by decide +kernel
theorem d_M_again_53 : decode b_M_again 53 = .ok (.iastore, 1) := by decide +kernel
theorem d_M_again_54 : decode b_M_again 54 = .ok (.iinc 2 1, 3) := by decide +kernel
theorem d_M_again_57 : decode b_M_again 57 = .ok (.goto (-26), 3) := by decide +kernel
theorem d_M_again_60 : decode b_M_again 60 = .ok (.aload_n 0, 1) := by decide +kernel
theorem d_M_again_61 : decode b_M_again 61 = .ok (.iconst 0, 1) := by decide +kernel
theorem d_M_again_62 : decode b_M_again 62 = .ok (.putfield 98, 3) := by decide +kernel
theorem d_M_again_65 : decode b_M_again 65 = .ok (.aload_n 0, 1) := by decide +kernel
theorem d_M_again_66 : decode b_M_again 66 = .ok (.getfield 25, 3) := by decide +kernel
theorem d_M_again_69 : decode b_M_again 69 = .ok (.bipush 20, 2) := by decide +kernel
theorem d_M_again_71 : decode b_M_again 71 = .ok (.iaload, 1) := by decide +kernel
theorem d_M_again_72 : decode b_M_again 72 = .ok (.ireturn, 1) := by decide +kernel
