/-! The class: names of its methods, what each instruction is. -/
abbrev b_D_init : ByteArray := prog_1_method_1_code
def y_D_init : MethodName := ⟨R_D, "<init>", "()V"⟩
theorem mc_D_init : Cond.code y_D_init b_D_init 2 none ∈ lw_use := g_use (List.mem_of_getElem? (i := 63) (by decide +kernel)) rfl
theorem d_D_init_0 : decode b_D_init 0 = .ok (.aload_n 0, 1) := by decide +kernel
theorem d_D_init_1 : decode b_D_init 1 = .ok (.invokespecial 1, 3) := by decide +kernel
theorem d_D_init_4 : decode b_D_init 4 = .ok (.aload_n 0, 1) := by decide +kernel
theorem d_D_init_5 : decode b_D_init 5 = .ok (.new 7, 3) := by decide +kernel
theorem d_D_init_8 : decode b_D_init 8 = .ok (.dup, 1) := by decide +kernel
theorem d_D_init_9 : decode b_D_init 9 = .ok (.invokespecial 9, 3) := by decide +kernel
theorem d_D_init_12 : decode b_D_init 12 = .ok (.putfield 10, 3) := by decide +kernel
theorem d_D_init_15 : decode b_D_init 15 = .ok (.aload_n 0, 1) := by decide +kernel
theorem d_D_init_16 : decode b_D_init 16 = .ok (.bipush 6, 2) := by decide +kernel
theorem d_D_init_18 : decode b_D_init 18 = .ok (.newarray .int, 2) := by decide +kernel
theorem d_D_init_20 : decode b_D_init 20 = .ok (.putfield 16, 3) := by decide +kernel
theorem d_D_init_23 : decode b_D_init 23 = .ok (.aload_n 0, 1) := by decide +kernel
theorem d_D_init_24 : decode b_D_init 24 = .ok (.bipush 6, 2) := by decide +kernel
theorem d_D_init_26 : decode b_D_init 26 = .ok (.newarray .int, 2) := by decide +kernel
theorem d_D_init_28 : decode b_D_init 28 = .ok (.putfield 20, 3) := by decide +kernel
theorem d_D_init_31 : decode b_D_init 31 = .ok (.aload_n 0, 1) := by decide +kernel
theorem d_D_init_32 : decode b_D_init 32 = .ok (.bipush 6, 2) := by decide +kernel
theorem d_D_init_34 : decode b_D_init 34 = .ok (.newarray .int, 2) := by decide +kernel
theorem d_D_init_36 : decode b_D_init 36 = .ok (.putfield 23, 3) := by decide +kernel
theorem d_D_init_39 : decode b_D_init 39 = .ok (.aload_n 0, 1) := by decide +kernel
theorem d_D_init_40 : decode b_D_init 40 = .ok (.new 26, 3) := by decide +kernel
theorem d_D_init_43 : decode b_D_init 43 = .ok (.dup, 1) := by decide +kernel
theorem d_D_init_44 : decode b_D_init 44 = .ok (.invokespecial 28, 3) := by decide +kernel
theorem d_D_init_47 : decode b_D_init 47 = .ok (.putfield 29, 3) := by decide +kernel
theorem d_D_init_50 : decode b_D_init 50 = .ok (.aload_n 0, 1) := by decide +kernel
theorem d_D_init_51 : decode b_D_init 51 = .ok (.bipush 14, 2) := by decide +kernel
theorem d_D_init_53 : decode b_D_init 53 = .ok (.anewarray 26, 3) := by decide +kernel
theorem d_D_init_56 : decode b_D_init 56 = .ok (.putfield 33, 3) := by decide +kernel
theorem d_D_init_59 : decode b_D_init 59 = .ok (.iconst 0, 1) := by decide +kernel
theorem d_D_init_60 : decode b_D_init 60 = .ok (.istore_n 1, 1) := by decide +kernel
theorem d_D_init_61 : decode b_D_init 61 = .ok (.iload_n 1, 1) := by decide +kernel
theorem d_D_init_62 : decode b_D_init 62 = .ok (.bipush 14, 2) := by decide +kernel
theorem d_D_init_64 : decode b_D_init 64 = .ok (.if_icmp .ge 22, 3) := by decide +kernel
theorem d_D_init_67 : decode b_D_init 67 = .ok (.aload_n 0, 1) := by decide +kernel
theorem d_D_init_68 : decode b_D_init 68 = .ok (.getfield 33, 3) := by decide +kernel
theorem d_D_init_71 : decode b_D_init 71 = .ok (.iload_n 1, 1) := by decide +kernel
theorem d_D_init_72 : decode b_D_init 72 = .ok (.new 26, 3) := by decide +kernel
theorem d_D_init_75 : decode b_D_init 75 = .ok (.dup, 1) := by decide +kernel
theorem d_D_init_76 : decode b_D_init 76 = .ok (.invokespecial 28, 3) := by decide +kernel
theorem d_D_init_79 : decode b_D_init 79 = .ok (.aastore, 1) := by decide +kernel
theorem d_D_init_80 : decode b_D_init 80 = .ok (.iinc 1 1, 3) := by decide +kernel
theorem d_D_init_83 : decode b_D_init 83 = .ok (.goto (-22), 3) := by decide +kernel
theorem d_D_init_86 : decode b_D_init 86 = .ok (.aload_n 0, 1) := by decide +kernel
theorem d_D_init_87 : decode b_D_init 87 = .ok (.iconst 2, 1) := by decide +kernel
theorem d_D_init_88 : decode b_D_init 88 = .ok (.anewarray 26, 3) := by decide +kernel
theorem d_D_init_91 : decode b_D_init 91 = .ok (.putfield 37, 3) := by decide +kernel
theorem d_D_init_94 : decode b_D_init 94 = .ok (.iconst 0, 1) := by decide +kernel
theorem d_D_init_95 : decode b_D_init 95 = .ok (.istore_n 1, 1) := by decide +kernel
theorem d_D_init_96 : decode b_D_init 96 = .ok (.iload_n 1, 1) := by decide +kernel
theorem d_D_init_97 : decode b_D_init 97 = .ok (.iconst 2, 1) := by decide +kernel
theorem d_D_init_98 : decode b_D_init 98 = .ok (.if_icmp .ge 22, 3) := by decide +kernel
theorem d_D_init_101 : decode b_D_init 101 = .ok (.aload_n 0, 1) := by decide +kernel
theorem d_D_init_102 : decode b_D_init 102 = .ok (.getfield 37, 3) := by decide +kernel
theorem d_D_init_105 : decode b_D_init 105 = .ok (.iload_n 1, 1) := by decide +kernel
theorem d_D_init_106 : decode b_D_init 106 = .ok (.new 26, 3) := by decide +kernel
theorem d_D_init_109 : decode b_D_init 109 = .ok (.dup, 1) := by decide +kernel
theorem d_D_init_110 : decode b_D_init 110 = .ok (.invokespecial 28, 3) := by decide +kernel
theorem d_D_init_113 : decode b_D_init 113 = .ok (.aastore, 1) := by decide +kernel
theorem d_D_init_114 : decode b_D_init 114 = .ok (.iinc 1 1, 3) := by decide +kernel
theorem d_D_init_117 : decode b_D_init 117 = .ok (.goto (-21), 3) := by decide +kernel
theorem d_D_init_120 : decode b_D_init 120 = .ok (.aload_n 0, 1) := by decide +kernel
theorem d_D_init_121 : decode b_D_init 121 = .ok (.bipush 6, 2) := by decide +kernel
theorem d_D_init_123 : decode b_D_init 123 = .ok (.newarray .int, 2) := by decide +kernel
theorem d_D_init_125 : decode b_D_init 125 = .ok (.putfield 40, 3) := by decide +kernel
theorem d_D_init_128 : decode b_D_init 128 = .ok (.aload_n 0, 1) := by decide +kernel
theorem d_D_init_129 : decode b_D_init 129 = .ok (.iconst 5, 1) := by decide +kernel
theorem d_D_init_130 : decode b_D_init 130 = .ok (.newarray .int, 2) := by decide +kernel
theorem d_D_init_132 : decode b_D_init 132 = .ok (.putfield 43, 3) := by decide +kernel
theorem d_D_init_135 : decode b_D_init 135 = .ok (.aload_n 0, 1) := by decide +kernel
theorem d_D_init_136 : decode b_D_init 136 = .ok (.bipush 7, 2) := by decide +kernel
theorem d_D_init_138 : decode b_D_init 138 = .ok (.newarray .int, 2) := by decide +kernel
theorem d_D_init_140 : decode b_D_init 140 = .ok (.putfield 46, 3) := by decide +kernel
theorem d_D_init_143 : decode b_D_init 143 = .ok (.aload_n 0, 1) := by decide +kernel
theorem d_D_init_144 : decode b_D_init 144 = .ok (.bipush 64, 2) := by decide +kernel
theorem d_D_init_146 : decode b_D_init 146 = .ok (.newarray .int, 2) := by decide +kernel
theorem d_D_init_148 : decode b_D_init 148 = .ok (.putfield 49, 3) := by decide +kernel
theorem d_D_init_151 : decode b_D_init 151 = .ok (.aload_n 0, 1) := by decide +kernel
theorem d_D_init_152 : decode b_D_init 152 = .ok (.bipush 64, 2) := by decide +kernel
theorem d_D_init_154 : decode b_D_init 154 = .ok (.newarray .int, 2) := by decide +kernel
theorem d_D_init_156 : decode b_D_init 156 = .ok (.putfield 52, 3) := by decide +kernel
theorem d_D_init_159 : decode b_D_init 159 = .ok (.aload_n 0, 1) := by decide +kernel
theorem d_D_init_160 : decode b_D_init 160 = .ok (.bipush 64, 2) := by decide +kernel
theorem d_D_init_162 : decode b_D_init 162 = .ok (.newarray .int, 2) := by decide +kernel
theorem d_D_init_164 : decode b_D_init 164 = .ok (.putfield 55, 3) := by decide +kernel
theorem d_D_init_167 : decode b_D_init 167 = .ok (.return_, 1) := by decide +kernel
abbrev b_D_write : ByteArray := prog_1_method_2_code
def y_D_write : MethodName := ⟨R_D, "write", "(I)I"⟩
theorem mc_D_write : Cond.code y_D_write b_D_write 2 (Option.some .int) ∈ lw_use := g_use (List.mem_of_getElem? (i := 179) (by decide +kernel)) rfl
theorem d_D_write_0 : decode b_D_write 0 = .ok (.iload_n 1, 1) := by decide +kernel
theorem d_D_write_1 : decode b_D_write 1 = .ok (.ifCond .lt 10, 3) := by decide +kernel
theorem d_D_write_4 : decode b_D_write 4 = .ok (.iload_n 1, 1) := by decide +kernel
theorem d_D_write_5 : decode b_D_write 5 = .ok (.sipush 255, 3) := by decide +kernel
theorem d_D_write_8 : decode b_D_write 8 = .ok (.if_icmp .le 6, 3) := by decide +kernel
theorem d_D_write_11 : decode b_D_write 11 = .ok (.bipush (-2), 2) := by decide +kernel
theorem d_D_write_13 : decode b_D_write 13 = .ok (.ireturn, 1) := by decide +kernel
theorem d_D_write_14 : decode b_D_write 14 = .ok (.aload_n 0, 1) := by decide +kernel
theorem d_D_write_15 : decode b_D_write 15 = .ok (.getfield 10, 3) := by decide +kernel
theorem d_D_write_18 : decode b_D_write 18 = .ok (.getfield 58, 3) := by decide +kernel
theorem d_D_write_21 : decode b_D_write 21 = .ok (.bipush 48, 2) := by decide +kernel
theorem d_D_write_23 : decode b_D_write 23 = .ok (.if_icmp .lt 6, 3) := by decide +kernel
theorem d_D_write_26 : decode b_D_write 26 = .ok (.bipush (-4), 2) := by decide +kernel
theorem d_D_write_28 : decode b_D_write 28 = .ok (.ireturn, 1) := by decide +kernel
theorem d_D_write_29 : decode b_D_write 29 = .ok (.aload_n 0, 1) := by decide +kernel
theorem d_D_write_30 : decode b_D_write 30 = .ok (.getfield 10, 3) := by decide +kernel
theorem d_D_write_33 : decode b_D_write 33 = .ok (.getfield 62, 3) := by decide +kernel
theorem d_D_write_36 : decode b_D_write 36 = .ok (.aload_n 0, 1) := by decide +kernel
theorem d_D_write_37 : decode b_D_write 37 = .ok (.getfield 10, 3) := by decide +kernel
theorem d_D_write_40 : decode b_D_write 40 = .ok (.getfield 58, 3) := by decide +kernel
theorem d_D_write_43 : decode b_D_write 43 = .ok (.iload_n 1, 1) := by decide +kernel
theorem d_D_write_44 : decode b_D_write 44 = .ok (.iastore, 1) := by decide +kernel
theorem d_D_write_45 : decode b_D_write 45 = .ok (.aload_n 0, 1) := by decide +kernel
theorem d_D_write_46 : decode b_D_write 46 = .ok (.getfield 10, 3) := by decide +kernel
theorem d_D_write_49 : decode b_D_write 49 = .ok (.dup, 1) := by decide +kernel
theorem d_D_write_50 : decode b_D_write 50 = .ok (.getfield 58, 3) := by decide +kernel
theorem d_D_write_53 : decode b_D_write 53 = .ok (.iconst 1, 1) := by decide +kernel
theorem d_D_write_54 : decode b_D_write 54 = .ok (.iadd, 1) := by decide +kernel
theorem d_D_write_55 : decode b_D_write 55 = .ok (.putfield 58, 3) := by decide +kernel
theorem d_D_write_58 : decode b_D_write 58 = .ok (.aload_n 0, 1) := by decide +kernel
theorem d_D_write_59 : decode b_D_write 59 = .ok (.getfield 10, 3) := by decide +kernel
theorem d_D_write_62 : decode b_D_write 62 = .ok (.getfield 58, 3) := by decide +kernel
theorem d_D_write_65 : decode b_D_write 65 = .ok (.ireturn, 1) := by decide +kernel
abbrev b_D_wipe : ByteArray := prog_1_method_3_code
def y_D_wipe : MethodName := ⟨R_D, "wipe", "()I"⟩
theorem mc_D_wipe : Cond.code y_D_wipe b_D_wipe 2 (Option.some .int) ∈ lw_use := g_use (List.mem_of_getElem? (i := 183) (by decide +kernel)) rfl
theorem d_D_wipe_0 : decode b_D_wipe 0 = .ok (.aload_n 0, 1) := by decide +kernel
theorem d_D_wipe_1 : decode b_D_wipe 1 = .ok (.getfield 10, 3) := by decide +kernel
theorem d_D_wipe_4 : decode b_D_wipe 4 = .ok (.getfield 58, 3) := by decide +kernel
theorem d_D_wipe_7 : decode b_D_wipe 7 = .ok (.istore_n 1, 1) := by decide +kernel
theorem d_D_wipe_8 : decode b_D_wipe 8 = .ok (.aload_n 0, 1) := by decide +kernel
theorem d_D_wipe_9 : decode b_D_wipe 9 = .ok (.getfield 10, 3) := by decide +kernel
theorem d_D_wipe_12 : decode b_D_wipe 12 = .ok (.iconst 0, 1) := by decide +kernel
theorem d_D_wipe_13 : decode b_D_wipe 13 = .ok (.putfield 58, 3) := by decide +kernel
theorem d_D_wipe_16 : decode b_D_wipe 16 = .ok (.iload_n 1, 1) := by decide +kernel
theorem d_D_wipe_17 : decode b_D_wipe 17 = .ok (.ireturn, 1) := by decide +kernel
abbrev b_D_fault : ByteArray := prog_1_method_4_code
def y_D_fault : MethodName := ⟨R_D, "fault", "()I"⟩
theorem mc_D_fault : Cond.code y_D_fault b_D_fault 1 (Option.some .int) ∈ lw_use := g_use (List.mem_of_getElem? (i := 187) (by decide +kernel)) rfl
theorem d_D_fault_0 : decode b_D_fault 0 = .ok (.aload_n 0, 1) := by decide +kernel
theorem d_D_fault_1 : decode b_D_fault 1 = .ok (.getfield 10, 3) := by decide +kernel
theorem d_D_fault_4 : decode b_D_fault 4 = .ok (.invokevirtual 65, 3) := by decide +kernel
theorem d_D_fault_7 : decode b_D_fault 7 = .ok (.ireturn, 1) := by decide +kernel
abbrev b_D_dyke : ByteArray := prog_1_method_5_code
def y_D_dyke : MethodName := ⟨R_D, "dyke", "()I"⟩
theorem mc_D_dyke : Cond.code y_D_dyke b_D_dyke 2 (Option.some .int) ∈ lw_use := g_use (List.mem_of_getElem? (i := 221) (by decide +kernel)) rfl
theorem d_D_dyke_0 : decode b_D_dyke 0 = .ok (.aload_n 0, 1) := by decide +kernel
theorem d_D_dyke_1 : decode b_D_dyke 1 = .ok (.getfield 10, 3) := by decide +kernel
theorem d_D_dyke_4 : decode b_D_dyke 4 = .ok (.invokevirtual 65, 3) := by decide +kernel
theorem d_D_dyke_7 : decode b_D_dyke 7 = .ok (.bipush (-9), 2) := by decide +kernel
theorem d_D_dyke_9 : decode b_D_dyke 9 = .ok (.if_icmp .eq 6, 3) := by decide +kernel
theorem d_D_dyke_12 : decode b_D_dyke 12 = .ok (.bipush (-3), 2) := by decide +kernel
theorem d_D_dyke_14 : decode b_D_dyke 14 = .ok (.ireturn, 1) := by decide +kernel
theorem d_D_dyke_15 : decode b_D_dyke 15 = .ok (.aload_n 0, 1) := by decide +kernel
theorem d_D_dyke_16 : decode b_D_dyke 16 = .ok (.iconst 0, 1) := by decide +kernel
theorem d_D_dyke_17 : decode b_D_dyke 17 = .ok (.putfield 69, 3) := by decide +kernel
theorem d_D_dyke_20 : decode b_D_dyke 20 = .ok (.aload_n 0, 1) := by decide +kernel
theorem d_D_dyke_21 : decode b_D_dyke 21 = .ok (.iconst 0, 1) := by decide +kernel
theorem d_D_dyke_22 : decode b_D_dyke 22 = .ok (.putfield 72, 3) := by decide +kernel
theorem d_D_dyke_25 : decode b_D_dyke 25 = .ok (.aload_n 0, 1) := by decide +kernel
theorem d_D_dyke_26 : decode b_D_dyke 26 = .ok (.iconst 0, 1) := by decide +kernel
theorem d_D_dyke_27 : decode b_D_dyke 27 = .ok (.putfield 75, 3) := by decide +kernel
theorem d_D_dyke_30 : decode b_D_dyke 30 = .ok (.aload_n 0, 1) := by decide +kernel
theorem d_D_dyke_31 : decode b_D_dyke 31 = .ok (.getfield 29, 3) := by decide +kernel
theorem d_D_dyke_34 : decode b_D_dyke 34 = .ok (.invokevirtual 78, 3) := by decide +kernel
theorem d_D_dyke_37 : decode b_D_dyke 37 = .ok (.iconst 1, 1) := by decide +kernel
theorem d_D_dyke_38 : decode b_D_dyke 38 = .ok (.istore_n 1, 1) := by decide +kernel
theorem d_D_dyke_39 : decode b_D_dyke 39 = .ok (.iload_n 1, 1) := by decide +kernel
theorem d_D_dyke_40 : decode b_D_dyke 40 = .ok (.aload_n 0, 1) := by decide +kernel
theorem d_D_dyke_41 : decode b_D_dyke 41 = .ok (.getfield 10, 3) := by decide +kernel
theorem d_D_dyke_44 : decode b_D_dyke 44 = .ok (.getfield 58, 3) := by decide +kernel
theorem d_D_dyke_47 : decode b_D_dyke 47 = .ok (.if_icmp .ge 66, 3) := by decide +kernel
theorem d_D_dyke_50 : decode b_D_dyke 50 = .ok (.aload_n 0, 1) := by decide +kernel
theorem d_D_dyke_51 : decode b_D_dyke 51 = .ok (.getfield 10, 3) := by decide +kernel
theorem d_D_dyke_54 : decode b_D_dyke 54 = .ok (.iload_n 1, 1) := by decide +kernel
theorem d_D_dyke_55 : decode b_D_dyke 55 = .ok (.invokevirtual 81, 3) := by decide +kernel
theorem d_D_dyke_58 : decode b_D_dyke 58 = .ok (.bipush 70, 2) := by decide +kernel
theorem d_D_dyke_60 : decode b_D_dyke 60 = .ok (.if_icmp .ne 22, 3) := by decide +kernel
theorem d_D_dyke_63 : decode b_D_dyke 63 = .ok (.aload_n 0, 1) := by decide +kernel
theorem d_D_dyke_64 : decode b_D_dyke 64 = .ok (.iload_n 1, 1) := by decide +kernel
theorem d_D_dyke_65 : decode b_D_dyke 65 = .ok (.iconst 1, 1) := by decide +kernel
theorem d_D_dyke_66 : decode b_D_dyke 66 = .ok (.iadd, 1) := by decide +kernel
theorem d_D_dyke_67 : decode b_D_dyke 67 = .ok (.invokevirtual 85, 3) := by decide +kernel
theorem d_D_dyke_70 : decode b_D_dyke 70 = .ok (.iload_n 1, 1) := by decide +kernel
theorem d_D_dyke_71 : decode b_D_dyke 71 = .ok (.getstatic 89, 3) := by decide +kernel
theorem d_D_dyke_74 : decode b_D_dyke 74 = .ok (.arraylength, 1) := by decide +kernel
theorem d_D_dyke_75 : decode b_D_dyke 75 = .ok (.iconst 1, 1) := by decide +kernel
theorem d_D_dyke_76 : decode b_D_dyke 76 = .ok (.iadd, 1) := by decide +kernel
theorem d_D_dyke_77 : decode b_D_dyke 77 = .ok (.iadd, 1) := by decide +kernel
theorem d_D_dyke_78 : decode b_D_dyke 78 = .ok (.istore_n 1, 1) := by decide +kernel
theorem d_D_dyke_79 : decode b_D_dyke 79 = .ok (.goto (-40), 3) := by decide +kernel
theorem d_D_dyke_82 : decode b_D_dyke 82 = .ok (.aload_n 0, 1) := by decide +kernel
theorem d_D_dyke_83 : decode b_D_dyke 83 = .ok (.getfield 29, 3) := by decide +kernel
theorem d_D_dyke_86 : decode b_D_dyke 86 = .ok (.dup, 1) := by decide +kernel
theorem d_D_dyke_87 : decode b_D_dyke 87 = .ok (.getfield 92, 3) := by decide +kernel
theorem d_D_dyke_90 : decode b_D_dyke 90 = .ok (.aload_n 0, 1) := by decide +kernel
theorem d_D_dyke_91 : decode b_D_dyke 91 = .ok (.getfield 10, 3) := by decide +kernel
theorem d_D_dyke_94 : decode b_D_dyke 94 = .ok (.iload_n 1, 1) := by decide +kernel
theorem d_D_dyke_95 : decode b_D_dyke 95 = .ok (.iconst 1, 1) := by decide +kernel
theorem d_D_dyke_96 : decode b_D_dyke 96 = .ok (.iadd, 1) := by decide +kernel
theorem d_D_dyke_97 : decode b_D_dyke 97 = .ok (.invokevirtual 95, 3) := by decide +kernel
theorem d_D_dyke_100 : decode b_D_dyke 100 = .ok (.invokestatic 98, 3) := by decide +kernel
theorem d_D_dyke_103 : decode b_D_dyke 103 = .ok (.ior, 1) := by decide +kernel
theorem d_D_dyke_104 : decode b_D_dyke 104 = .ok (.putfield 92, 3) := by decide +kernel
theorem d_D_dyke_107 : decode b_D_dyke 107 = .ok (.iinc 1 2, 3) := by decide +kernel
theorem d_D_dyke_110 : decode b_D_dyke 110 = .ok (.goto (-71), 3) := by decide +kernel
theorem d_D_dyke_113 : decode b_D_dyke 113 = .ok (.aload_n 0, 1) := by decide +kernel
theorem d_D_dyke_114 : decode b_D_dyke 114 = .ok (.getfield 69, 3) := by decide +kernel
theorem d_D_dyke_117 : decode b_D_dyke 117 = .ok (.ireturn, 1) := by decide +kernel
abbrev b_D_about : ByteArray := prog_1_method_6_code
def y_D_about : MethodName := ⟨R_D, "about", "(I)I"⟩
theorem mc_D_about : Cond.code y_D_about b_D_about 2 (Option.some .int) ∈ lw_use := g_use (List.mem_of_getElem? (i := 240) (by decide +kernel)) rfl
theorem d_D_about_0 : decode b_D_about 0 = .ok (.iload_n 1, 1) := by decide +kernel
theorem d_D_about_1 : decode b_D_about 1 = .ok (.tableswitch 94 0 6 #[43, 48, 56, 64, 72, 81, 86], 43) := by decide +kernel
theorem d_D_about_44 : decode b_D_about 44 = .ok (.aload_n 0, 1) := by decide +kernel
theorem d_D_about_45 : decode b_D_about 45 = .ok (.getfield 69, 3) := by decide +kernel
theorem d_D_about_48 : decode b_D_about 48 = .ok (.ireturn, 1) := by decide +kernel
theorem d_D_about_49 : decode b_D_about 49 = .ok (.aload_n 0, 1) := by decide +kernel
theorem d_D_about_50 : decode b_D_about 50 = .ok (.getfield 29, 3) := by decide +kernel
theorem d_D_about_53 : decode b_D_about 53 = .ok (.getfield 92, 3) := by decide +kernel
theorem d_D_about_56 : decode b_D_about 56 = .ok (.ireturn, 1) := by decide +kernel
theorem d_D_about_57 : decode b_D_about 57 = .ok (.aload_n 0, 1) := by decide +kernel
theorem d_D_about_58 : decode b_D_about 58 = .ok (.getfield 29, 3) := by decide +kernel
theorem d_D_about_61 : decode b_D_about 61 = .ok (.getfield 101, 3) := by decide +kernel
theorem d_D_about_64 : decode b_D_about 64 = .ok (.ireturn, 1) := by decide +kernel
theorem d_D_about_65 : decode b_D_about 65 = .ok (.aload_n 0, 1) := by decide +kernel
theorem d_D_about_66 : decode b_D_about 66 = .ok (.getfield 29, 3) := by decide +kernel
theorem d_D_about_69 : decode b_D_about 69 = .ok (.getfield 104, 3) := by decide +kernel
theorem d_D_about_72 : decode b_D_about 72 = .ok (.ireturn, 1) := by decide +kernel
theorem d_D_about_73 : decode b_D_about 73 = .ok (.aload_n 0, 1) := by decide +kernel
theorem d_D_about_74 : decode b_D_about 74 = .ok (.aload_n 0, 1) := by decide +kernel
theorem d_D_about_75 : decode b_D_about 75 = .ok (.invokevirtual 107, 3) := by decide +kernel
theorem d_D_about_78 : decode b_D_about 78 = .ok (.invokevirtual 110, 3) := by decide +kernel
theorem d_D_about_81 : decode b_D_about 81 = .ok (.ireturn, 1) := by decide +kernel
theorem d_D_about_82 : decode b_D_about 82 = .ok (.aload_n 0, 1) := by decide +kernel
theorem d_D_about_83 : decode b_D_about 83 = .ok (.getfield 72, 3) := by decide +kernel
theorem d_D_about_86 : decode b_D_about 86 = .ok (.ireturn, 1) := by decide +kernel
theorem d_D_about_87 : decode b_D_about 87 = .ok (.aload_n 0, 1) := by decide +kernel
theorem d_D_about_88 : decode b_D_about 88 = .ok (.getfield 10, 3) := by decide +kernel
theorem d_D_about_91 : decode b_D_about 91 = .ok (.getfield 58, 3) := by decide +kernel
theorem d_D_about_94 : decode b_D_about 94 = .ok (.ireturn, 1) := by decide +kernel
theorem d_D_about_95 : decode b_D_about 95 = .ok (.bipush (-2), 2) := by decide +kernel
theorem d_D_about_97 : decode b_D_about 97 = .ok (.ireturn, 1) := by decide +kernel
abbrev b_D_farm : ByteArray := prog_1_method_7_code
def y_D_farm : MethodName := ⟨R_D, "farm", "(II)I"⟩
theorem mc_D_farm : Cond.code y_D_farm b_D_farm 3 (Option.some .int) ∈ lw_use := g_use (List.mem_of_getElem? (i := 253) (by decide +kernel)) rfl
theorem d_D_farm_0 : decode b_D_farm 0 = .ok (.aload_n 0, 1) := by decide +kernel
theorem d_D_farm_1 : decode b_D_farm 1 = .ok (.iload_n 1, 1) := by decide +kernel
theorem d_D_farm_2 : decode b_D_farm 2 = .ok (.invokevirtual 113, 3) := by decide +kernel
theorem d_D_farm_5 : decode b_D_farm 5 = .ok (.ifCond .ne 5, 3) := by decide +kernel
theorem d_D_farm_8 : decode b_D_farm 8 = .ok (.iconst (-1), 1) := by decide +kernel
theorem d_D_farm_9 : decode b_D_farm 9 = .ok (.ireturn, 1) := by decide +kernel
theorem d_D_farm_10 : decode b_D_farm 10 = .ok (.iload_n 2, 1) := by decide +kernel
theorem d_D_farm_11 : decode b_D_farm 11 = .ok (.tableswitch 107 0 6 #[41, 51, 58, 68, 75, 82, 92], 41) := by decide +kernel
theorem d_D_farm_52 : decode b_D_farm 52 = .ok (.aload_n 0, 1) := by decide +kernel
theorem d_D_farm_53 : decode b_D_farm 53 = .ok (.getfield 29, 3) := by decide +kernel
theorem d_D_farm_56 : decode b_D_farm 56 = .ok (.getfield 117, 3) := by decide +kernel
theorem d_D_farm_59 : decode b_D_farm 59 = .ok (.iload_n 1, 1) := by decide +kernel
theorem d_D_farm_60 : decode b_D_farm 60 = .ok (.iaload, 1) := by decide +kernel
theorem d_D_farm_61 : decode b_D_farm 61 = .ok (.ireturn, 1) := by decide +kernel
theorem d_D_farm_62 : decode b_D_farm 62 = .ok (.aload_n 0, 1) := by decide +kernel
theorem d_D_farm_63 : decode b_D_farm 63 = .ok (.getfield 16, 3) := by decide +kernel
theorem d_D_farm_66 : decode b_D_farm 66 = .ok (.iload_n 1, 1) := by decide +kernel
theorem d_D_farm_67 : decode b_D_farm 67 = .ok (.iaload, 1) := by decide +kernel
theorem d_D_farm_68 : decode b_D_farm 68 = .ok (.ireturn, 1) := by decide +kernel
theorem d_D_farm_69 : decode b_D_farm 69 = .ok (.aload_n 0, 1) := by decide +kernel
theorem d_D_farm_70 : decode b_D_farm 70 = .ok (.getfield 29, 3) := by decide +kernel
theorem d_D_farm_73 : decode b_D_farm 73 = .ok (.getfield 120, 3) := by decide +kernel
theorem d_D_farm_76 : decode b_D_farm 76 = .ok (.iload_n 1, 1) := by decide +kernel
theorem d_D_farm_77 : decode b_D_farm 77 = .ok (.iaload, 1) := by decide +kernel
theorem d_D_farm_78 : decode b_D_farm 78 = .ok (.ireturn, 1) := by decide +kernel
theorem d_D_farm_79 : decode b_D_farm 79 = .ok (.aload_n 0, 1) := by decide +kernel
theorem d_D_farm_80 : decode b_D_farm 80 = .ok (.getfield 20, 3) := by decide +kernel
theorem d_D_farm_83 : decode b_D_farm 83 = .ok (.iload_n 1, 1) := by decide +kernel
theorem d_D_farm_84 : decode b_D_farm 84 = .ok (.iaload, 1) := by decide +kernel
theorem d_D_farm_85 : decode b_D_farm 85 = .ok (.ireturn, 1) := by decide +kernel
theorem d_D_farm_86 : decode b_D_farm 86 = .ok (.aload_n 0, 1) := by decide +kernel
theorem d_D_farm_87 : decode b_D_farm 87 = .ok (.getfield 23, 3) := by decide +kernel
theorem d_D_farm_90 : decode b_D_farm 90 = .ok (.iload_n 1, 1) := by decide +kernel
theorem d_D_farm_91 : decode b_D_farm 91 = .ok (.iaload, 1) := by decide +kernel
theorem d_D_farm_92 : decode b_D_farm 92 = .ok (.ireturn, 1) := by decide +kernel
theorem d_D_farm_93 : decode b_D_farm 93 = .ok (.aload_n 0, 1) := by decide +kernel
theorem d_D_farm_94 : decode b_D_farm 94 = .ok (.getfield 29, 3) := by decide +kernel
theorem d_D_farm_97 : decode b_D_farm 97 = .ok (.getfield 123, 3) := by decide +kernel
theorem d_D_farm_100 : decode b_D_farm 100 = .ok (.iload_n 1, 1) := by decide +kernel
theorem d_D_farm_101 : decode b_D_farm 101 = .ok (.iaload, 1) := by decide +kernel
theorem d_D_farm_102 : decode b_D_farm 102 = .ok (.ireturn, 1) := by decide +kernel
theorem d_D_farm_103 : decode b_D_farm 103 = .ok (.aload_n 0, 1) := by decide +kernel
theorem d_D_farm_104 : decode b_D_farm 104 = .ok (.iload_n 1, 1) := by decide +kernel
theorem d_D_farm_105 : decode b_D_farm 105 = .ok (.aload_n 0, 1) := by decide +kernel
theorem d_D_farm_106 : decode b_D_farm 106 = .ok (.getfield 29, 3) := by decide +kernel
theorem d_D_farm_109 : decode b_D_farm 109 = .ok (.getfield 117, 3) := by decide +kernel
theorem d_D_farm_112 : decode b_D_farm 112 = .ok (.iload_n 1, 1) := by decide +kernel
theorem d_D_farm_113 : decode b_D_farm 113 = .ok (.iaload, 1) := by decide +kernel
theorem d_D_farm_114 : decode b_D_farm 114 = .ok (.invokevirtual 126, 3) := by decide +kernel
theorem d_D_farm_117 : decode b_D_farm 117 = .ok (.ireturn, 1) := by decide +kernel
theorem d_D_farm_118 : decode b_D_farm 118 = .ok (.bipush (-2), 2) := by decide +kernel
theorem d_D_farm_120 : decode b_D_farm 120 = .ok (.ireturn, 1) := by decide +kernel
abbrev b_D_owes : ByteArray := prog_1_method_8_code
def y_D_owes : MethodName := ⟨R_D, "owes", "(II)I"⟩
theorem mc_D_owes : Cond.code y_D_owes b_D_owes 3 (Option.some .int) ∈ lw_use := g_use (List.mem_of_getElem? (i := 265) (by decide +kernel)) rfl
theorem d_D_owes_0 : decode b_D_owes 0 = .ok (.aload_n 0, 1) := by decide +kernel
theorem d_D_owes_1 : decode b_D_owes 1 = .ok (.iload_n 1, 1) := by decide +kernel
theorem d_D_owes_2 : decode b_D_owes 2 = .ok (.invokevirtual 113, 3) := by decide +kernel
theorem d_D_owes_5 : decode b_D_owes 5 = .ok (.ifCond .eq 11, 3) := by decide +kernel
theorem d_D_owes_8 : decode b_D_owes 8 = .ok (.aload_n 0, 1) := by decide +kernel
theorem d_D_owes_9 : decode b_D_owes 9 = .ok (.iload_n 2, 1) := by decide +kernel
theorem d_D_owes_10 : decode b_D_owes 10 = .ok (.invokevirtual 113, 3) := by decide +kernel
theorem d_D_owes_13 : decode b_D_owes 13 = .ok (.ifCond .ne 5, 3) := by decide +kernel
theorem d_D_owes_16 : decode b_D_owes 16 = .ok (.iconst (-1), 1) := by decide +kernel
theorem d_D_owes_17 : decode b_D_owes 17 = .ok (.ireturn, 1) := by decide +kernel
theorem d_D_owes_18 : decode b_D_owes 18 = .ok (.aload_n 0, 1) := by decide +kernel
theorem d_D_owes_19 : decode b_D_owes 19 = .ok (.getfield 29, 3) := by decide +kernel
theorem d_D_owes_22 : decode b_D_owes 22 = .ok (.getfield 130, 3) := by decide +kernel
theorem d_D_owes_25 : decode b_D_owes 25 = .ok (.iload_n 1, 1) := by decide +kernel
theorem d_D_owes_26 : decode b_D_owes 26 = .ok (.aaload, 1) := by decide +kernel
theorem d_D_owes_27 : decode b_D_owes 27 = .ok (.iload_n 2, 1) := by decide +kernel
theorem d_D_owes_28 : decode b_D_owes 28 = .ok (.iaload, 1) := by decide +kernel
theorem d_D_owes_29 : decode b_D_owes 29 = .ok (.ireturn, 1) := by decide +kernel
abbrev b_D_storm : ByteArray := prog_1_method_9_code
def y_D_storm : MethodName := ⟨R_D, "storm", "(I)I"⟩
theorem mc_D_storm : Cond.code y_D_storm b_D_storm 3 (Option.some .int) ∈ lw_use := g_use (List.mem_of_getElem? (i := 269) (by decide +kernel)) rfl
theorem d_D_storm_0 : decode b_D_storm 0 = .ok (.iload_n 1, 1) := by decide +kernel
theorem d_D_storm_1 : decode b_D_storm 1 = .ok (.invokestatic 134, 3) := by decide +kernel
theorem d_D_storm_4 : decode b_D_storm 4 = .ok (.ifCond .ne 6, 3) := by decide +kernel
theorem d_D_storm_7 : decode b_D_storm 7 = .ok (.bipush (-2), 2) := by decide +kernel
theorem d_D_storm_9 : decode b_D_storm 9 = .ok (.ireturn, 1) := by decide +kernel
theorem d_D_storm_10 : decode b_D_storm 10 = .ok (.aload_n 0, 1) := by decide +kernel
theorem d_D_storm_11 : decode b_D_storm 11 = .ok (.invokevirtual 137, 3) := by decide +kernel
theorem d_D_storm_14 : decode b_D_storm 14 = .ok (.aload_n 0, 1) := by decide +kernel
theorem d_D_storm_15 : decode b_D_storm 15 = .ok (.aload_n 0, 1) := by decide +kernel
theorem d_D_storm_16 : decode b_D_storm 16 = .ok (.getfield 29, 3) := by decide +kernel
theorem d_D_storm_19 : decode b_D_storm 19 = .ok (.getfield 117, 3) := by decide +kernel
theorem d_D_storm_22 : decode b_D_storm 22 = .ok (.iload_n 1, 1) := by decide +kernel
theorem d_D_storm_23 : decode b_D_storm 23 = .ok (.invokevirtual 140, 3) := by decide +kernel
theorem d_D_storm_26 : decode b_D_storm 26 = .ok (.istore_n 2, 1) := by decide +kernel
theorem d_D_storm_27 : decode b_D_storm 27 = .ok (.aload_n 0, 1) := by decide +kernel
theorem d_D_storm_28 : decode b_D_storm 28 = .ok (.getfield 29, 3) := by decide +kernel
theorem d_D_storm_31 : decode b_D_storm 31 = .ok (.dup, 1) := by decide +kernel
theorem d_D_storm_32 : decode b_D_storm 32 = .ok (.getfield 101, 3) := by decide +kernel
theorem d_D_storm_35 : decode b_D_storm 35 = .ok (.iload_n 2, 1) := by decide +kernel
theorem d_D_storm_36 : decode b_D_storm 36 = .ok (.ior, 1) := by decide +kernel
theorem d_D_storm_37 : decode b_D_storm 37 = .ok (.putfield 101, 3) := by decide +kernel
theorem d_D_storm_40 : decode b_D_storm 40 = .ok (.aload_n 0, 1) := by decide +kernel
theorem d_D_storm_41 : decode b_D_storm 41 = .ok (.getfield 29, 3) := by decide +kernel
theorem d_D_storm_44 : decode b_D_storm 44 = .ok (.dup, 1) := by decide +kernel
theorem d_D_storm_45 : decode b_D_storm 45 = .ok (.getfield 104, 3) := by decide +kernel
theorem d_D_storm_48 : decode b_D_storm 48 = .ok (.iconst 1, 1) := by decide +kernel
theorem d_D_storm_49 : decode b_D_storm 49 = .ok (.iadd, 1) := by decide +kernel
theorem d_D_storm_50 : decode b_D_storm 50 = .ok (.putfield 104, 3) := by decide +kernel
theorem d_D_storm_53 : decode b_D_storm 53 = .ok (.aload_n 0, 1) := by decide +kernel
theorem d_D_storm_54 : decode b_D_storm 54 = .ok (.aload_n 0, 1) := by decide +kernel
theorem d_D_storm_55 : decode b_D_storm 55 = .ok (.iload_n 2, 1) := by decide +kernel
theorem d_D_storm_56 : decode b_D_storm 56 = .ok (.invokevirtual 144, 3) := by decide +kernel
theorem d_D_storm_59 : decode b_D_storm 59 = .ok (.invokevirtual 147, 3) := by decide +kernel
theorem d_D_storm_62 : decode b_D_storm 62 = .ok (.ireturn, 1) := by decide +kernel
abbrev b_D_carry : ByteArray := prog_1_method_10_code
def y_D_carry : MethodName := ⟨R_D, "carry", "(II)I"⟩
theorem mc_D_carry : Cond.code y_D_carry b_D_carry 3 (Option.some .int) ∈ lw_use := g_use (List.mem_of_getElem? (i := 310) (by decide +kernel)) rfl
theorem d_D_carry_0 : decode b_D_carry 0 = .ok (.aload_n 0, 1) := by decide +kernel
theorem d_D_carry_1 : decode b_D_carry 1 = .ok (.iload_n 1, 1) := by decide +kernel
theorem d_D_carry_2 : decode b_D_carry 2 = .ok (.invokevirtual 113, 3) := by decide +kernel
theorem d_D_carry_5 : decode b_D_carry 5 = .ok (.ifCond .eq 11, 3) := by decide +kernel
theorem d_D_carry_8 : decode b_D_carry 8 = .ok (.aload_n 0, 1) := by decide +kernel
theorem d_D_carry_9 : decode b_D_carry 9 = .ok (.iload_n 2, 1) := by decide +kernel
theorem d_D_carry_10 : decode b_D_carry 10 = .ok (.invokevirtual 113, 3) := by decide +kernel
theorem d_D_carry_13 : decode b_D_carry 13 = .ok (.ifCond .ne 5, 3) := by decide +kernel
theorem d_D_carry_16 : decode b_D_carry 16 = .ok (.iconst (-1), 1) := by decide +kernel
theorem d_D_carry_17 : decode b_D_carry 17 = .ok (.ireturn, 1) := by decide +kernel
theorem d_D_carry_18 : decode b_D_carry 18 = .ok (.aload_n 0, 1) := by decide +kernel
theorem d_D_carry_19 : decode b_D_carry 19 = .ok (.getfield 29, 3) := by decide +kernel
theorem d_D_carry_22 : decode b_D_carry 22 = .ok (.getfield 120, 3) := by decide +kernel
theorem d_D_carry_25 : decode b_D_carry 25 = .ok (.iload_n 1, 1) := by decide +kernel
theorem d_D_carry_26 : decode b_D_carry 26 = .ok (.iaload, 1) := by decide +kernel
theorem d_D_carry_27 : decode b_D_carry 27 = .ok (.iconst 1, 1) := by decide +kernel
theorem d_D_carry_28 : decode b_D_carry 28 = .ok (.if_icmp .ge 6, 3) := by decide +kernel
theorem d_D_carry_31 : decode b_D_carry 31 = .ok (.bipush (-3), 2) := by decide +kernel
theorem d_D_carry_33 : decode b_D_carry 33 = .ok (.ireturn, 1) := by decide +kernel
theorem d_D_carry_34 : decode b_D_carry 34 = .ok (.aload_n 0, 1) := by decide +kernel
theorem d_D_carry_35 : decode b_D_carry 35 = .ok (.getfield 29, 3) := by decide +kernel
theorem d_D_carry_38 : decode b_D_carry 38 = .ok (.getfield 117, 3) := by decide +kernel
theorem d_D_carry_41 : decode b_D_carry 41 = .ok (.iload_n 2, 1) := by decide +kernel
theorem d_D_carry_42 : decode b_D_carry 42 = .ok (.iaload, 1) := by decide +kernel
theorem d_D_carry_43 : decode b_D_carry 43 = .ok (.bipush 15, 2) := by decide +kernel
theorem d_D_carry_45 : decode b_D_carry 45 = .ok (.if_icmp .lt 6, 3) := by decide +kernel
theorem d_D_carry_48 : decode b_D_carry 48 = .ok (.bipush (-4), 2) := by decide +kernel
theorem d_D_carry_50 : decode b_D_carry 50 = .ok (.ireturn, 1) := by decide +kernel
theorem d_D_carry_51 : decode b_D_carry 51 = .ok (.aload_n 0, 1) := by decide +kernel
theorem d_D_carry_52 : decode b_D_carry 52 = .ok (.invokevirtual 137, 3) := by decide +kernel
theorem d_D_carry_55 : decode b_D_carry 55 = .ok (.aload_n 0, 1) := by decide +kernel
theorem d_D_carry_56 : decode b_D_carry 56 = .ok (.getfield 29, 3) := by decide +kernel
theorem d_D_carry_59 : decode b_D_carry 59 = .ok (.getfield 120, 3) := by decide +kernel
theorem d_D_carry_62 : decode b_D_carry 62 = .ok (.iload_n 1, 1) := by decide +kernel
theorem d_D_carry_63 : decode b_D_carry 63 = .ok (.dup2, 1) := by decide +kernel
theorem d_D_carry_64 : decode b_D_carry 64 = .ok (.iaload, 1) := by decide +kernel
theorem d_D_carry_65 : decode b_D_carry 65 = .ok (.iconst 1, 1) := by decide +kernel
theorem d_D_carry_66 : decode b_D_carry 66 = .ok (.isub, 1) := by decide +kernel
theorem d_D_carry_67 : decode b_D_carry 67 = .ok (.iastore, 1) := by decide +kernel
theorem d_D_carry_68 : decode b_D_carry 68 = .ok (.aload_n 0, 1) := by decide +kernel
theorem d_D_carry_69 : decode b_D_carry 69 = .ok (.getfield 29, 3) := by decide +kernel
theorem d_D_carry_72 : decode b_D_carry 72 = .ok (.getfield 117, 3) := by decide +kernel
theorem d_D_carry_75 : decode b_D_carry 75 = .ok (.iload_n 2, 1) := by decide +kernel
theorem d_D_carry_76 : decode b_D_carry 76 = .ok (.dup2, 1) := by decide +kernel
theorem d_D_carry_77 : decode b_D_carry 77 = .ok (.iaload, 1) := by decide +kernel
theorem d_D_carry_78 : decode b_D_carry 78 = .ok (.iconst 1, 1) := by decide +kernel
theorem d_D_carry_79 : decode b_D_carry 79 = .ok (.iadd, 1) := by decide +kernel
theorem d_D_carry_80 : decode b_D_carry 80 = .ok (.iastore, 1) := by decide +kernel
theorem d_D_carry_81 : decode b_D_carry 81 = .ok (.aload_n 0, 1) := by decide +kernel
theorem d_D_carry_82 : decode b_D_carry 82 = .ok (.getfield 29, 3) := by decide +kernel
theorem d_D_carry_85 : decode b_D_carry 85 = .ok (.getfield 117, 3) := by decide +kernel
theorem d_D_carry_88 : decode b_D_carry 88 = .ok (.iload_n 2, 1) := by decide +kernel
theorem d_D_carry_89 : decode b_D_carry 89 = .ok (.iaload, 1) := by decide +kernel
theorem d_D_carry_90 : decode b_D_carry 90 = .ok (.ireturn, 1) := by decide +kernel
abbrev b_D_lend : ByteArray := prog_1_method_11_code
def y_D_lend : MethodName := ⟨R_D, "lend", "(II)I"⟩
theorem mc_D_lend : Cond.code y_D_lend b_D_lend 3 (Option.some .int) ∈ lw_use := g_use (List.mem_of_getElem? (i := 314) (by decide +kernel)) rfl
theorem d_D_lend_0 : decode b_D_lend 0 = .ok (.aload_n 0, 1) := by decide +kernel
theorem d_D_lend_1 : decode b_D_lend 1 = .ok (.iload_n 1, 1) := by decide +kernel
theorem d_D_lend_2 : decode b_D_lend 2 = .ok (.invokevirtual 113, 3) := by decide +kernel
theorem d_D_lend_5 : decode b_D_lend 5 = .ok (.ifCond .eq 11, 3) := by decide +kernel
theorem d_D_lend_8 : decode b_D_lend 8 = .ok (.aload_n 0, 1) := by decide +kernel
theorem d_D_lend_9 : decode b_D_lend 9 = .ok (.iload_n 2, 1) := by decide +kernel
theorem d_D_lend_10 : decode b_D_lend 10 = .ok (.invokevirtual 113, 3) := by decide +kernel
theorem d_D_lend_13 : decode b_D_lend 13 = .ok (.ifCond .ne 5, 3) := by decide +kernel
theorem d_D_lend_16 : decode b_D_lend 16 = .ok (.iconst (-1), 1) := by decide +kernel
theorem d_D_lend_17 : decode b_D_lend 17 = .ok (.ireturn, 1) := by decide +kernel
theorem d_D_lend_18 : decode b_D_lend 18 = .ok (.iload_n 1, 1) := by decide +kernel
theorem d_D_lend_19 : decode b_D_lend 19 = .ok (.iload_n 2, 1) := by decide +kernel
theorem d_D_lend_20 : decode b_D_lend 20 = .ok (.if_icmp .ne 6, 3) := by decide +kernel
theorem d_D_lend_23 : decode b_D_lend 23 = .ok (.bipush (-2), 2) := by decide +kernel
theorem d_D_lend_25 : decode b_D_lend 25 = .ok (.ireturn, 1) := by decide +kernel
theorem d_D_lend_26 : decode b_D_lend 26 = .ok (.aload_n 0, 1) := by decide +kernel
theorem d_D_lend_27 : decode b_D_lend 27 = .ok (.getfield 29, 3) := by decide +kernel
theorem d_D_lend_30 : decode b_D_lend 30 = .ok (.getfield 120, 3) := by decide +kernel
theorem d_D_lend_33 : decode b_D_lend 33 = .ok (.iload_n 1, 1) := by decide +kernel
theorem d_D_lend_34 : decode b_D_lend 34 = .ok (.iaload, 1) := by decide +kernel
theorem d_D_lend_35 : decode b_D_lend 35 = .ok (.iconst 1, 1) := by decide +kernel
theorem d_D_lend_36 : decode b_D_lend 36 = .ok (.if_icmp .ge 6, 3) := by decide +kernel
theorem d_D_lend_39 : decode b_D_lend 39 = .ok (.bipush (-3), 2) := by decide +kernel
theorem d_D_lend_41 : decode b_D_lend 41 = .ok (.ireturn, 1) := by decide +kernel
theorem d_D_lend_42 : decode b_D_lend 42 = .ok (.aload_n 0, 1) := by decide +kernel
theorem d_D_lend_43 : decode b_D_lend 43 = .ok (.invokevirtual 137, 3) := by decide +kernel
theorem d_D_lend_46 : decode b_D_lend 46 = .ok (.aload_n 0, 1) := by decide +kernel
theorem d_D_lend_47 : decode b_D_lend 47 = .ok (.getfield 29, 3) := by decide +kernel
theorem d_D_lend_50 : decode b_D_lend 50 = .ok (.getfield 120, 3) := by decide +kernel
theorem d_D_lend_53 : decode b_D_lend 53 = .ok (.iload_n 1, 1) := by decide +kernel
theorem d_D_lend_54 : decode b_D_lend 54 = .ok (.dup2, 1) := by decide +kernel
theorem d_D_lend_55 : decode b_D_lend 55 = .ok (.iaload, 1) := by decide +kernel
theorem d_D_lend_56 : decode b_D_lend 56 = .ok (.iconst 1, 1) := by decide +kernel
theorem d_D_lend_57 : decode b_D_lend 57 = .ok (.isub, 1) := by decide +kernel
theorem d_D_lend_58 : decode b_D_lend 58 = .ok (.iastore, 1) := by decide +kernel
theorem d_D_lend_59 : decode b_D_lend 59 = .ok (.aload_n 0, 1) := by decide +kernel
theorem d_D_lend_60 : decode b_D_lend 60 = .ok (.getfield 29, 3) := by decide +kernel
theorem d_D_lend_63 : decode b_D_lend 63 = .ok (.getfield 120, 3) := by decide +kernel
theorem d_D_lend_66 : decode b_D_lend 66 = .ok (.iload_n 2, 1) := by decide +kernel
theorem d_D_lend_67 : decode b_D_lend 67 = .ok (.dup2, 1) := by decide +kernel
theorem d_D_lend_68 : decode b_D_lend 68 = .ok (.iaload, 1) := by decide +kernel
theorem d_D_lend_69 : decode b_D_lend 69 = .ok (.iconst 1, 1) := by decide +kernel
theorem d_D_lend_70 : decode b_D_lend 70 = .ok (.iadd, 1) := by decide +kernel
theorem d_D_lend_71 : decode b_D_lend 71 = .ok (.iastore, 1) := by decide +kernel
theorem d_D_lend_72 : decode b_D_lend 72 = .ok (.aload_n 0, 1) := by decide +kernel
theorem d_D_lend_73 : decode b_D_lend 73 = .ok (.getfield 29, 3) := by decide +kernel
theorem d_D_lend_76 : decode b_D_lend 76 = .ok (.getfield 130, 3) := by decide +kernel
theorem d_D_lend_79 : decode b_D_lend 79 = .ok (.iload_n 2, 1) := by decide +kernel
theorem d_D_lend_80 : decode b_D_lend 80 = .ok (.aaload, 1) := by decide +kernel
theorem d_D_lend_81 : decode b_D_lend 81 = .ok (.iload_n 1, 1) := by decide +kernel
theorem d_D_lend_82 : decode b_D_lend 82 = .ok (.dup2, 1) := by decide +kernel
theorem d_D_lend_83 : decode b_D_lend 83 = .ok (.iaload, 1) := by decide +kernel
theorem d_D_lend_84 : decode b_D_lend 84 = .ok (.iconst 1, 1) := by decide +kernel
theorem d_D_lend_85 : decode b_D_lend 85 = .ok (.iadd, 1) := by decide +kernel
theorem d_D_lend_86 : decode b_D_lend 86 = .ok (.iastore, 1) := by decide +kernel
theorem d_D_lend_87 : decode b_D_lend 87 = .ok (.aload_n 0, 1) := by decide +kernel
theorem d_D_lend_88 : decode b_D_lend 88 = .ok (.getfield 29, 3) := by decide +kernel
theorem d_D_lend_91 : decode b_D_lend 91 = .ok (.getfield 130, 3) := by decide +kernel
theorem d_D_lend_94 : decode b_D_lend 94 = .ok (.iload_n 2, 1) := by decide +kernel
theorem d_D_lend_95 : decode b_D_lend 95 = .ok (.aaload, 1) := by decide +kernel
theorem d_D_lend_96 : decode b_D_lend 96 = .ok (.iload_n 1, 1) := by decide +kernel
theorem d_D_lend_97 : decode b_D_lend 97 = .ok (.iaload, 1) := by decide +kernel
theorem d_D_lend_98 : decode b_D_lend 98 = .ok (.ireturn, 1) := by decide +kernel
abbrev b_D_stick : ByteArray := prog_1_method_12_code
def y_D_stick : MethodName := ⟨R_D, "stick", "(I)I"⟩
theorem mc_D_stick : Cond.code y_D_stick b_D_stick 2 (Option.some .int) ∈ lw_use := g_use (List.mem_of_getElem? (i := 318) (by decide +kernel)) rfl
theorem d_D_stick_0 : decode b_D_stick 0 = .ok (.aload_n 0, 1) := by decide +kernel
theorem d_D_stick_1 : decode b_D_stick 1 = .ok (.iload_n 1, 1) := by decide +kernel
theorem d_D_stick_2 : decode b_D_stick 2 = .ok (.invokevirtual 113, 3) := by decide +kernel
theorem d_D_stick_5 : decode b_D_stick 5 = .ok (.ifCond .ne 5, 3) := by decide +kernel
theorem d_D_stick_8 : decode b_D_stick 8 = .ok (.iconst (-1), 1) := by decide +kernel
theorem d_D_stick_9 : decode b_D_stick 9 = .ok (.ireturn, 1) := by decide +kernel
theorem d_D_stick_10 : decode b_D_stick 10 = .ok (.aload_n 0, 1) := by decide +kernel
theorem d_D_stick_11 : decode b_D_stick 11 = .ok (.getfield 29, 3) := by decide +kernel
theorem d_D_stick_14 : decode b_D_stick 14 = .ok (.getfield 101, 3) := by decide +kernel
theorem d_D_stick_17 : decode b_D_stick 17 = .ok (.iload_n 1, 1) := by decide +kernel
theorem d_D_stick_18 : decode b_D_stick 18 = .ok (.invokestatic 150, 3) := by decide +kernel
theorem d_D_stick_21 : decode b_D_stick 21 = .ok (.ifCond .eq 6, 3) := by decide +kernel
theorem d_D_stick_24 : decode b_D_stick 24 = .ok (.bipush (-3), 2) := by decide +kernel
theorem d_D_stick_26 : decode b_D_stick 26 = .ok (.ireturn, 1) := by decide +kernel
theorem d_D_stick_27 : decode b_D_stick 27 = .ok (.aload_n 0, 1) := by decide +kernel
theorem d_D_stick_28 : decode b_D_stick 28 = .ok (.invokevirtual 137, 3) := by decide +kernel
theorem d_D_stick_31 : decode b_D_stick 31 = .ok (.aload_n 0, 1) := by decide +kernel
theorem d_D_stick_32 : decode b_D_stick 32 = .ok (.getfield 29, 3) := by decide +kernel
theorem d_D_stick_35 : decode b_D_stick 35 = .ok (.dup, 1) := by decide +kernel
theorem d_D_stick_36 : decode b_D_stick 36 = .ok (.getfield 101, 3) := by decide +kernel
theorem d_D_stick_39 : decode b_D_stick 39 = .ok (.iload_n 1, 1) := by decide +kernel
theorem d_D_stick_40 : decode b_D_stick 40 = .ok (.invokestatic 98, 3) := by decide +kernel
theorem d_D_stick_43 : decode b_D_stick 43 = .ok (.ior, 1) := by decide +kernel
theorem d_D_stick_44 : decode b_D_stick 44 = .ok (.putfield 101, 3) := by decide +kernel
theorem d_D_stick_47 : decode b_D_stick 47 = .ok (.aload_n 0, 1) := by decide +kernel
theorem d_D_stick_48 : decode b_D_stick 48 = .ok (.getfield 29, 3) := by decide +kernel
theorem d_D_stick_51 : decode b_D_stick 51 = .ok (.getfield 123, 3) := by decide +kernel
theorem d_D_stick_54 : decode b_D_stick 54 = .ok (.iload_n 1, 1) := by decide +kernel
theorem d_D_stick_55 : decode b_D_stick 55 = .ok (.iaload, 1) := by decide +kernel
theorem d_D_stick_56 : decode b_D_stick 56 = .ok (.ireturn, 1) := by decide +kernel
abbrev b_D_pull : ByteArray := prog_1_method_13_code
def y_D_pull : MethodName := ⟨R_D, "pull", "(II)I"⟩
theorem mc_D_pull : Cond.code y_D_pull b_D_pull 4 (Option.some .int) ∈ lw_use := g_use (List.mem_of_getElem? (i := 322) (by decide +kernel)) rfl
theorem d_D_pull_0 : decode b_D_pull 0 = .ok (.aload_n 0, 1) := by decide +kernel
theorem d_D_pull_1 : decode b_D_pull 1 = .ok (.iload_n 1, 1) := by decide +kernel
theorem d_D_pull_2 : decode b_D_pull 2 = .ok (.invokevirtual 113, 3) := by decide +kernel
theorem d_D_pull_5 : decode b_D_pull 5 = .ok (.ifCond .eq 11, 3) := by decide +kernel
theorem d_D_pull_8 : decode b_D_pull 8 = .ok (.aload_n 0, 1) := by decide +kernel
theorem d_D_pull_9 : decode b_D_pull 9 = .ok (.iload_n 2, 1) := by decide +kernel
theorem d_D_pull_10 : decode b_D_pull 10 = .ok (.invokevirtual 113, 3) := by decide +kernel
theorem d_D_pull_13 : decode b_D_pull 13 = .ok (.ifCond .ne 5, 3) := by decide +kernel
theorem d_D_pull_16 : decode b_D_pull 16 = .ok (.iconst (-1), 1) := by decide +kernel
theorem d_D_pull_17 : decode b_D_pull 17 = .ok (.ireturn, 1) := by decide +kernel
theorem d_D_pull_18 : decode b_D_pull 18 = .ok (.aload_n 0, 1) := by decide +kernel
theorem d_D_pull_19 : decode b_D_pull 19 = .ok (.getfield 29, 3) := by decide +kernel
theorem d_D_pull_22 : decode b_D_pull 22 = .ok (.getfield 101, 3) := by decide +kernel
theorem d_D_pull_25 : decode b_D_pull 25 = .ok (.iload_n 2, 1) := by decide +kernel
theorem d_D_pull_26 : decode b_D_pull 26 = .ok (.invokestatic 150, 3) := by decide +kernel
theorem d_D_pull_29 : decode b_D_pull 29 = .ok (.ifCond .ne 6, 3) := by decide +kernel
theorem d_D_pull_32 : decode b_D_pull 32 = .ok (.bipush (-3), 2) := by decide +kernel
theorem d_D_pull_34 : decode b_D_pull 34 = .ok (.ireturn, 1) := by decide +kernel
theorem d_D_pull_35 : decode b_D_pull 35 = .ok (.aload_n 0, 1) := by decide +kernel
theorem d_D_pull_36 : decode b_D_pull 36 = .ok (.invokevirtual 137, 3) := by decide +kernel
theorem d_D_pull_39 : decode b_D_pull 39 = .ok (.aload_n 0, 1) := by decide +kernel
theorem d_D_pull_40 : decode b_D_pull 40 = .ok (.getfield 29, 3) := by decide +kernel
theorem d_D_pull_43 : decode b_D_pull 43 = .ok (.getfield 123, 3) := by decide +kernel
theorem d_D_pull_46 : decode b_D_pull 46 = .ok (.iload_n 2, 1) := by decide +kernel
theorem d_D_pull_47 : decode b_D_pull 47 = .ok (.iaload, 1) := by decide +kernel
theorem d_D_pull_48 : decode b_D_pull 48 = .ok (.istore_n 3, 1) := by decide +kernel
theorem d_D_pull_49 : decode b_D_pull 49 = .ok (.aload_n 0, 1) := by decide +kernel
theorem d_D_pull_50 : decode b_D_pull 50 = .ok (.getfield 29, 3) := by decide +kernel
theorem d_D_pull_53 : decode b_D_pull 53 = .ok (.dup, 1) := by decide +kernel
theorem d_D_pull_54 : decode b_D_pull 54 = .ok (.getfield 101, 3) := by decide +kernel
theorem d_D_pull_57 : decode b_D_pull 57 = .ok (.iload_n 2, 1) := by decide +kernel
theorem d_D_pull_58 : decode b_D_pull 58 = .ok (.invokestatic 98, 3) := by decide +kernel
theorem d_D_pull_61 : decode b_D_pull 61 = .ok (.iconst (-1), 1) := by decide +kernel
theorem d_D_pull_62 : decode b_D_pull 62 = .ok (.ixor, 1) := by decide +kernel
theorem d_D_pull_63 : decode b_D_pull 63 = .ok (.iand, 1) := by decide +kernel
theorem d_D_pull_64 : decode b_D_pull 64 = .ok (.putfield 101, 3) := by decide +kernel
theorem d_D_pull_67 : decode b_D_pull 67 = .ok (.aload_n 0, 1) := by decide +kernel
theorem d_D_pull_68 : decode b_D_pull 68 = .ok (.getfield 29, 3) := by decide +kernel
theorem d_D_pull_71 : decode b_D_pull 71 = .ok (.getfield 123, 3) := by decide +kernel
theorem d_D_pull_74 : decode b_D_pull 74 = .ok (.iload_n 2, 1) := by decide +kernel
theorem d_D_pull_75 : decode b_D_pull 75 = .ok (.iload_n 1, 1) := by decide +kernel
theorem d_D_pull_76 : decode b_D_pull 76 = .ok (.iastore, 1) := by decide +kernel
theorem d_D_pull_77 : decode b_D_pull 77 = .ok (.iload_n 3, 1) := by decide +kernel
theorem d_D_pull_78 : decode b_D_pull 78 = .ok (.ireturn, 1) := by decide +kernel
abbrev b_D_dam : ByteArray := prog_1_method_14_code
def y_D_dam : MethodName := ⟨R_D, "dam", "(I)I"⟩
theorem mc_D_dam : Cond.code y_D_dam b_D_dam 2 (Option.some .int) ∈ lw_use := g_use (List.mem_of_getElem? (i := 326) (by decide +kernel)) rfl
theorem d_D_dam_0 : decode b_D_dam 0 = .ok (.aload_n 0, 1) := by decide +kernel
theorem d_D_dam_1 : decode b_D_dam 1 = .ok (.iload_n 1, 1) := by decide +kernel
theorem d_D_dam_2 : decode b_D_dam 2 = .ok (.invokevirtual 113, 3) := by decide +kernel
theorem d_D_dam_5 : decode b_D_dam 5 = .ok (.ifCond .eq 13, 3) := by decide +kernel
theorem d_D_dam_8 : decode b_D_dam 8 = .ok (.iload_n 1, 1) := by decide +kernel
theorem d_D_dam_9 : decode b_D_dam 9 = .ok (.aload_n 0, 1) := by decide +kernel
theorem d_D_dam_10 : decode b_D_dam 10 = .ok (.getfield 69, 3) := by decide +kernel
theorem d_D_dam_13 : decode b_D_dam 13 = .ok (.iconst 1, 1) := by decide +kernel
theorem d_D_dam_14 : decode b_D_dam 14 = .ok (.isub, 1) := by decide +kernel
theorem d_D_dam_15 : decode b_D_dam 15 = .ok (.if_icmp .ne 5, 3) := by decide +kernel
theorem d_D_dam_18 : decode b_D_dam 18 = .ok (.iconst (-1), 1) := by decide +kernel
theorem d_D_dam_19 : decode b_D_dam 19 = .ok (.ireturn, 1) := by decide +kernel
theorem d_D_dam_20 : decode b_D_dam 20 = .ok (.aload_n 0, 1) := by decide +kernel
theorem d_D_dam_21 : decode b_D_dam 21 = .ok (.invokevirtual 137, 3) := by decide +kernel
theorem d_D_dam_24 : decode b_D_dam 24 = .ok (.aload_n 0, 1) := by decide +kernel
theorem d_D_dam_25 : decode b_D_dam 25 = .ok (.getfield 29, 3) := by decide +kernel
theorem d_D_dam_28 : decode b_D_dam 28 = .ok (.dup, 1) := by decide +kernel
theorem d_D_dam_29 : decode b_D_dam 29 = .ok (.getfield 92, 3) := by decide +kernel
theorem d_D_dam_32 : decode b_D_dam 32 = .ok (.iload_n 1, 1) := by decide +kernel
theorem d_D_dam_33 : decode b_D_dam 33 = .ok (.invokestatic 98, 3) := by decide +kernel
theorem d_D_dam_36 : decode b_D_dam 36 = .ok (.ixor, 1) := by decide +kernel
theorem d_D_dam_37 : decode b_D_dam 37 = .ok (.putfield 92, 3) := by decide +kernel
theorem d_D_dam_40 : decode b_D_dam 40 = .ok (.aload_n 0, 1) := by decide +kernel
theorem d_D_dam_41 : decode b_D_dam 41 = .ok (.getfield 29, 3) := by decide +kernel
theorem d_D_dam_44 : decode b_D_dam 44 = .ok (.getfield 92, 3) := by decide +kernel
theorem d_D_dam_47 : decode b_D_dam 47 = .ok (.iload_n 1, 1) := by decide +kernel
theorem d_D_dam_48 : decode b_D_dam 48 = .ok (.invokestatic 150, 3) := by decide +kernel
theorem d_D_dam_51 : decode b_D_dam 51 = .ok (.ifCond .eq 7, 3) := by decide +kernel
theorem d_D_dam_54 : decode b_D_dam 54 = .ok (.iconst 1, 1) := by decide +kernel
theorem d_D_dam_55 : decode b_D_dam 55 = .ok (.goto 4, 3) := by decide +kernel
theorem d_D_dam_58 : decode b_D_dam 58 = .ok (.iconst 0, 1) := by decide +kernel
theorem d_D_dam_59 : decode b_D_dam 59 = .ok (.ireturn, 1) := by decide +kernel
abbrev b_D_undo : ByteArray := prog_1_method_15_code
def y_D_undo : MethodName := ⟨R_D, "undo", "()I"⟩
theorem mc_D_undo : Cond.code y_D_undo b_D_undo 1 (Option.some .int) ∈ lw_use := g_use (List.mem_of_getElem? (i := 330) (by decide +kernel)) rfl
theorem d_D_undo_0 : decode b_D_undo 0 = .ok (.aload_n 0, 1) := by decide +kernel
theorem d_D_undo_1 : decode b_D_undo 1 = .ok (.getfield 72, 3) := by decide +kernel
theorem d_D_undo_4 : decode b_D_undo 4 = .ok (.iconst 1, 1) := by decide +kernel
theorem d_D_undo_5 : decode b_D_undo 5 = .ok (.if_icmp .ge 6, 3) := by decide +kernel
theorem d_D_undo_8 : decode b_D_undo 8 = .ok (.bipush (-3), 2) := by decide +kernel
theorem d_D_undo_10 : decode b_D_undo 10 = .ok (.ireturn, 1) := by decide +kernel
theorem d_D_undo_11 : decode b_D_undo 11 = .ok (.aload_n 0, 1) := by decide +kernel
theorem d_D_undo_12 : decode b_D_undo 12 = .ok (.dup, 1) := by decide +kernel
theorem d_D_undo_13 : decode b_D_undo 13 = .ok (.getfield 72, 3) := by decide +kernel
theorem d_D_undo_16 : decode b_D_undo 16 = .ok (.iconst 1, 1) := by decide +kernel
theorem d_D_undo_17 : decode b_D_undo 17 = .ok (.isub, 1) := by decide +kernel
theorem d_D_undo_18 : decode b_D_undo 18 = .ok (.putfield 72, 3) := by decide +kernel
theorem d_D_undo_21 : decode b_D_undo 21 = .ok (.aload_n 0, 1) := by decide +kernel
theorem d_D_undo_22 : decode b_D_undo 22 = .ok (.getfield 29, 3) := by decide +kernel
theorem d_D_undo_25 : decode b_D_undo 25 = .ok (.aload_n 0, 1) := by decide +kernel
theorem d_D_undo_26 : decode b_D_undo 26 = .ok (.getfield 33, 3) := by decide +kernel
theorem d_D_undo_29 : decode b_D_undo 29 = .ok (.aload_n 0, 1) := by decide +kernel
theorem d_D_undo_30 : decode b_D_undo 30 = .ok (.aload_n 0, 1) := by decide +kernel
theorem d_D_undo_31 : decode b_D_undo 31 = .ok (.getfield 72, 3) := by decide +kernel
theorem d_D_undo_34 : decode b_D_undo 34 = .ok (.invokevirtual 154, 3) := by decide +kernel
theorem d_D_undo_37 : decode b_D_undo 37 = .ok (.aaload, 1) := by decide +kernel
theorem d_D_undo_38 : decode b_D_undo 38 = .ok (.invokevirtual 157, 3) := by decide +kernel
theorem d_D_undo_41 : decode b_D_undo 41 = .ok (.aload_n 0, 1) := by decide +kernel
theorem d_D_undo_42 : decode b_D_undo 42 = .ok (.getfield 72, 3) := by decide +kernel
theorem d_D_undo_45 : decode b_D_undo 45 = .ok (.ireturn, 1) := by decide +kernel
abbrev b_D_breaks : ByteArray := prog_1_method_16_code
def y_D_breaks : MethodName := ⟨R_D, "breaks", "(I)I"⟩
theorem mc_D_breaks : Cond.code y_D_breaks b_D_breaks 2 (Option.some .int) ∈ lw_use := g_use (List.mem_of_getElem? (i := 334) (by decide +kernel)) rfl
theorem d_D_breaks_0 : decode b_D_breaks 0 = .ok (.iload_n 1, 1) := by decide +kernel
theorem d_D_breaks_1 : decode b_D_breaks 1 = .ok (.invokestatic 134, 3) := by decide +kernel
theorem d_D_breaks_4 : decode b_D_breaks 4 = .ok (.ifCond .eq 11, 3) := by decide +kernel
theorem d_D_breaks_7 : decode b_D_breaks 7 = .ok (.aload_n 0, 1) := by decide +kernel
theorem d_D_breaks_8 : decode b_D_breaks 8 = .ok (.iload_n 1, 1) := by decide +kernel
theorem d_D_breaks_9 : decode b_D_breaks 9 = .ok (.invokevirtual 161, 3) := by decide +kernel
theorem d_D_breaks_12 : decode b_D_breaks 12 = .ok (.goto 5, 3) := by decide +kernel
theorem d_D_breaks_15 : decode b_D_breaks 15 = .ok (.bipush (-2), 2) := by decide +kernel
theorem d_D_breaks_17 : decode b_D_breaks 17 = .ok (.ireturn, 1) := by decide +kernel
abbrev b_D_drowns : ByteArray := prog_1_method_17_code
def y_D_drowns : MethodName := ⟨R_D, "drowns", "(I)I"⟩
theorem mc_D_drowns : Cond.code y_D_drowns b_D_drowns 2 (Option.some .int) ∈ lw_use := g_use (List.mem_of_getElem? (i := 342) (by decide +kernel)) rfl
theorem d_D_drowns_0 : decode b_D_drowns 0 = .ok (.iload_n 1, 1) := by decide +kernel
theorem d_D_drowns_1 : decode b_D_drowns 1 = .ok (.invokestatic 134, 3) := by decide +kernel
theorem d_D_drowns_4 : decode b_D_drowns 4 = .ok (.ifCond .eq 15, 3) := by decide +kernel
theorem d_D_drowns_7 : decode b_D_drowns 7 = .ok (.aload_n 0, 1) := by decide +kernel
theorem d_D_drowns_8 : decode b_D_drowns 8 = .ok (.aload_n 0, 1) := by decide +kernel
theorem d_D_drowns_9 : decode b_D_drowns 9 = .ok (.iload_n 1, 1) := by decide +kernel
theorem d_D_drowns_10 : decode b_D_drowns 10 = .ok (.invokevirtual 161, 3) := by decide +kernel
theorem d_D_drowns_13 : decode b_D_drowns 13 = .ok (.invokevirtual 144, 3) := by decide +kernel
theorem d_D_drowns_16 : decode b_D_drowns 16 = .ok (.goto 5, 3) := by decide +kernel
theorem d_D_drowns_19 : decode b_D_drowns 19 = .ok (.bipush (-2), 2) := by decide +kernel
theorem d_D_drowns_21 : decode b_D_drowns 21 = .ok (.ireturn, 1) := by decide +kernel
abbrev b_D_loss : ByteArray := prog_1_method_18_code
def y_D_loss : MethodName := ⟨R_D, "loss", "(I)I"⟩
theorem mc_D_loss : Cond.code y_D_loss b_D_loss 2 (Option.some .int) ∈ lw_use := g_use (List.mem_of_getElem? (i := 346) (by decide +kernel)) rfl
theorem d_D_loss_0 : decode b_D_loss 0 = .ok (.iload_n 1, 1) := by decide +kernel
theorem d_D_loss_1 : decode b_D_loss 1 = .ok (.invokestatic 134, 3) := by decide +kernel
theorem d_D_loss_4 : decode b_D_loss 4 = .ok (.ifCond .eq 19, 3) := by decide +kernel
theorem d_D_loss_7 : decode b_D_loss 7 = .ok (.aload_n 0, 1) := by decide +kernel
theorem d_D_loss_8 : decode b_D_loss 8 = .ok (.aload_n 0, 1) := by decide +kernel
theorem d_D_loss_9 : decode b_D_loss 9 = .ok (.aload_n 0, 1) := by decide +kernel
theorem d_D_loss_10 : decode b_D_loss 10 = .ok (.iload_n 1, 1) := by decide +kernel
theorem d_D_loss_11 : decode b_D_loss 11 = .ok (.invokevirtual 161, 3) := by decide +kernel
theorem d_D_loss_14 : decode b_D_loss 14 = .ok (.invokevirtual 144, 3) := by decide +kernel
theorem d_D_loss_17 : decode b_D_loss 17 = .ok (.invokevirtual 147, 3) := by decide +kernel
theorem d_D_loss_20 : decode b_D_loss 20 = .ok (.goto 5, 3) := by decide +kernel
theorem d_D_loss_23 : decode b_D_loss 23 = .ok (.bipush (-2), 2) := by decide +kernel
theorem d_D_loss_25 : decode b_D_loss 25 = .ok (.ireturn, 1) := by decide +kernel
abbrev b_D_needs : ByteArray := prog_1_method_19_code
def y_D_needs : MethodName := ⟨R_D, "needs", "(I)I"⟩
theorem mc_D_needs : Cond.code y_D_needs b_D_needs 2 (Option.some .int) ∈ lw_use := g_use (List.mem_of_getElem? (i := 350) (by decide +kernel)) rfl
theorem d_D_needs_0 : decode b_D_needs 0 = .ok (.iload_n 1, 1) := by decide +kernel
theorem d_D_needs_1 : decode b_D_needs 1 = .ok (.invokestatic 134, 3) := by decide +kernel
theorem d_D_needs_4 : decode b_D_needs 4 = .ok (.ifCond .eq 15, 3) := by decide +kernel
theorem d_D_needs_7 : decode b_D_needs 7 = .ok (.aload_n 0, 1) := by decide +kernel
theorem d_D_needs_8 : decode b_D_needs 8 = .ok (.aload_n 0, 1) := by decide +kernel
theorem d_D_needs_9 : decode b_D_needs 9 = .ok (.invokevirtual 107, 3) := by decide +kernel
theorem d_D_needs_12 : decode b_D_needs 12 = .ok (.iload_n 1, 1) := by decide +kernel
theorem d_D_needs_13 : decode b_D_needs 13 = .ok (.invokevirtual 164, 3) := by decide +kernel
theorem d_D_needs_16 : decode b_D_needs 16 = .ok (.goto 5, 3) := by decide +kernel
theorem d_D_needs_19 : decode b_D_needs 19 = .ok (.bipush (-2), 2) := by decide +kernel
theorem d_D_needs_21 : decode b_D_needs 21 = .ok (.ireturn, 1) := by decide +kernel
abbrev b_D_placing : ByteArray := prog_1_method_20_code
def y_D_placing : MethodName := ⟨R_D, "placing", "(III)I"⟩
theorem mc_D_placing : Cond.code y_D_placing b_D_placing 5 (Option.some .int) ∈ lw_use := g_use (List.mem_of_getElem? (i := 358) (by decide +kernel)) rfl
theorem d_D_placing_0 : decode b_D_placing 0 = .ok (.iload_n 1, 1) := by decide +kernel
theorem d_D_placing_1 : decode b_D_placing 1 = .ok (.ifCond .lt 25, 3) := by decide +kernel
theorem d_D_placing_4 : decode b_D_placing 4 = .ok (.iload_n 1, 1) := by decide +kernel
theorem d_D_placing_5 : decode b_D_placing 5 = .ok (.bipush 60, 2) := by decide +kernel
theorem d_D_placing_7 : decode b_D_placing 7 = .ok (.if_icmp .gt 19, 3) := by decide +kernel
theorem d_D_placing_10 : decode b_D_placing 10 = .ok (.iload_n 2, 1) := by decide +kernel
theorem d_D_placing_11 : decode b_D_placing 11 = .ok (.invokestatic 134, 3) := by decide +kernel
theorem d_D_placing_14 : decode b_D_placing 14 = .ok (.ifCond .eq 12, 3) := by decide +kernel
theorem d_D_placing_17 : decode b_D_placing 17 = .ok (.iload_n 3, 1) := by decide +kernel
theorem d_D_placing_18 : decode b_D_placing 18 = .ok (.ifCond .lt 8, 3) := by decide +kernel
theorem d_D_placing_21 : decode b_D_placing 21 = .ok (.iload_n 3, 1) := by decide +kernel
theorem d_D_placing_22 : decode b_D_placing 22 = .ok (.iconst 1, 1) := by decide +kernel
theorem d_D_placing_23 : decode b_D_placing 23 = .ok (.if_icmp .le 6, 3) := by decide +kernel
theorem d_D_placing_26 : decode b_D_placing 26 = .ok (.bipush (-2), 2) := by decide +kernel
theorem d_D_placing_28 : decode b_D_placing 28 = .ok (.ireturn, 1) := by decide +kernel
theorem d_D_placing_29 : decode b_D_placing 29 = .ok (.aload_n 0, 1) := by decide +kernel
theorem d_D_placing_30 : decode b_D_placing 30 = .ok (.iload_n 2, 1) := by decide +kernel
theorem d_D_placing_31 : decode b_D_placing 31 = .ok (.invokevirtual 167, 3) := by decide +kernel
theorem d_D_placing_34 : decode b_D_placing 34 = .ok (.aload_n 0, 1) := by decide +kernel
theorem d_D_placing_35 : decode b_D_placing 35 = .ok (.iload_n 1, 1) := by decide +kernel
theorem d_D_placing_36 : decode b_D_placing 36 = .ok (.invokevirtual 170, 3) := by decide +kernel
theorem d_D_placing_39 : decode b_D_placing 39 = .ok (.istore 4, 2) := by decide +kernel
theorem d_D_placing_41 : decode b_D_placing 41 = .ok (.iload_n 3, 1) := by decide +kernel
theorem d_D_placing_42 : decode b_D_placing 42 = .ok (.ifCond .ne 13, 3) := by decide +kernel
theorem d_D_placing_45 : decode b_D_placing 45 = .ok (.aload_n 0, 1) := by decide +kernel
theorem d_D_placing_46 : decode b_D_placing 46 = .ok (.getfield 49, 3) := by decide +kernel
theorem d_D_placing_49 : decode b_D_placing 49 = .ok (.iload 4, 2) := by decide +kernel
theorem d_D_placing_51 : decode b_D_placing 51 = .ok (.iaload, 1) := by decide +kernel
theorem d_D_placing_52 : decode b_D_placing 52 = .ok (.goto 5, 3) := by decide +kernel
theorem d_D_placing_55 : decode b_D_placing 55 = .ok (.iload 4, 2) := by decide +kernel
theorem d_D_placing_57 : decode b_D_placing 57 = .ok (.ireturn, 1) := by decide +kernel
abbrev b_D_all : ByteArray := prog_1_method_21_code
def y_D_all : MethodName := ⟨R_D, "all", "()I"⟩
theorem mc_D_all : Cond.code y_D_all b_D_all 5 (Option.some .int) ∈ lw_use := g_use (List.mem_of_getElem? (i := 375) (by decide +kernel)) rfl
theorem d_D_all_0 : decode b_D_all 0 = .ok (.bipush (-9), 2) := by decide +kernel
theorem d_D_all_2 : decode b_D_all 2 = .ok (.istore_n 1, 1) := by decide +kernel
theorem d_D_all_3 : decode b_D_all 3 = .ok (.iconst (-1), 1) := by decide +kernel
theorem d_D_all_4 : decode b_D_all 4 = .ok (.istore_n 2, 1) := by decide +kernel
theorem d_D_all_5 : decode b_D_all 5 = .ok (.iconst 0, 1) := by decide +kernel
theorem d_D_all_6 : decode b_D_all 6 = .ok (.istore_n 3, 1) := by decide +kernel
theorem d_D_all_7 : decode b_D_all 7 = .ok (.iload_n 3, 1) := by decide +kernel
theorem d_D_all_8 : decode b_D_all 8 = .ok (.aload_n 0, 1) := by decide +kernel
theorem d_D_all_9 : decode b_D_all 9 = .ok (.getfield 69, 3) := by decide +kernel
theorem d_D_all_12 : decode b_D_all 12 = .ok (.if_icmp .ge 34, 3) := by decide +kernel
theorem d_D_all_15 : decode b_D_all 15 = .ok (.aload_n 0, 1) := by decide +kernel
theorem d_D_all_16 : decode b_D_all 16 = .ok (.aload_n 0, 1) := by decide +kernel
theorem d_D_all_17 : decode b_D_all 17 = .ok (.iload_n 3, 1) := by decide +kernel
theorem d_D_all_18 : decode b_D_all 18 = .ok (.invokestatic 98, 3) := by decide +kernel
theorem d_D_all_21 : decode b_D_all 21 = .ok (.invokevirtual 144, 3) := by decide +kernel
theorem d_D_all_24 : decode b_D_all 24 = .ok (.invokevirtual 147, 3) := by decide +kernel
theorem d_D_all_27 : decode b_D_all 27 = .ok (.istore 4, 2) := by decide +kernel
theorem d_D_all_29 : decode b_D_all 29 = .ok (.iload 4, 2) := by decide +kernel
theorem d_D_all_31 : decode b_D_all 31 = .ok (.iload_n 2, 1) := by decide +kernel
theorem d_D_all_32 : decode b_D_all 32 = .ok (.if_icmp .le 8, 3) := by decide +kernel
theorem d_D_all_35 : decode b_D_all 35 = .ok (.iload 4, 2) := by decide +kernel
theorem d_D_all_37 : decode b_D_all 37 = .ok (.istore_n 2, 1) := by decide +kernel
theorem d_D_all_38 : decode b_D_all 38 = .ok (.iload_n 3, 1) := by decide +kernel
theorem d_D_all_39 : decode b_D_all 39 = .ok (.istore_n 1, 1) := by decide +kernel
theorem d_D_all_40 : decode b_D_all 40 = .ok (.iinc 3 1, 3) := by decide +kernel
theorem d_D_all_43 : decode b_D_all 43 = .ok (.goto (-36), 3) := by decide +kernel
theorem d_D_all_46 : decode b_D_all 46 = .ok (.iload_n 1, 1) := by decide +kernel
theorem d_D_all_47 : decode b_D_all 47 = .ok (.ireturn, 1) := by decide +kernel
abbrev b_D_told : ByteArray := prog_1_method_22_code
def y_D_told : MethodName := ⟨R_D, "told", "(IIJI)I"⟩
theorem mc_D_told : Cond.code y_D_told b_D_told 10 (Option.some .int) ∈ lw_use := g_use (List.mem_of_getElem? (i := 379) (by decide +kernel)) rfl
theorem d_D_told_0 : decode b_D_told 0 = .ok (.aload_n 0, 1) := by decide +kernel
theorem d_D_told_1 : decode b_D_told 1 = .ok (.iload_n 1, 1) := by decide +kernel
theorem d_D_told_2 : decode b_D_told 2 = .ok (.invokevirtual 113, 3) := by decide +kernel
theorem d_D_told_5 : decode b_D_told 5 = .ok (.ifCond .ne 5, 3) := by decide +kernel
theorem d_D_told_8 : decode b_D_told 8 = .ok (.iconst (-1), 1) := by decide +kernel
theorem d_D_told_9 : decode b_D_told 9 = .ok (.ireturn, 1) := by decide +kernel
theorem d_D_told_10 : decode b_D_told 10 = .ok (.iload_n 2, 1) := by decide +kernel
theorem d_D_told_11 : decode b_D_told 11 = .ok (.iconst 1, 1) := by decide +kernel
theorem d_D_told_12 : decode b_D_told 12 = .ok (.if_icmp .lt 28, 3) := by decide +kernel
theorem d_D_told_15 : decode b_D_told 15 = .ok (.iload_n 2, 1) := by decide +kernel
theorem d_D_told_16 : decode b_D_told 16 = .ok (.iconst 5, 1) := by decide +kernel
theorem d_D_told_17 : decode b_D_told 17 = .ok (.if_icmp .gt 23, 3) := by decide +kernel
theorem d_D_told_20 : decode b_D_told 20 = .ok (.aload_n 0, 1) := by decide +kernel
theorem d_D_told_21 : decode b_D_told 21 = .ok (.iload_n 2, 1) := by decide +kernel
theorem d_D_told_22 : decode b_D_told 22 = .ok (.lload_n 3, 1) := by decide +kernel
theorem d_D_told_23 : decode b_D_told 23 = .ok (.invokevirtual 173, 3) := by decide +kernel
theorem d_D_told_26 : decode b_D_told 26 = .ok (.ifCond .eq 14, 3) := by decide +kernel
theorem d_D_told_29 : decode b_D_told 29 = .ok (.iload 5, 2) := by decide +kernel
theorem d_D_told_31 : decode b_D_told 31 = .ok (.ifCond .lt 9, 3) := by decide +kernel
theorem d_D_told_34 : decode b_D_told 34 = .ok (.iload 5, 2) := by decide +kernel
theorem d_D_told_36 : decode b_D_told 36 = .ok (.iconst 2, 1) := by decide +kernel
theorem d_D_told_37 : decode b_D_told 37 = .ok (.if_icmp .le 6, 3) := by decide +kernel
theorem d_D_told_40 : decode b_D_told 40 = .ok (.bipush (-2), 2) := by decide +kernel
theorem d_D_told_42 : decode b_D_told 42 = .ok (.ireturn, 1) := by decide +kernel
theorem d_D_told_43 : decode b_D_told 43 = .ok (.bipush (-9), 2) := by decide +kernel
theorem d_D_told_45 : decode b_D_told 45 = .ok (.istore 6, 2) := by decide +kernel
theorem d_D_told_47 : decode b_D_told 47 = .ok (.bipush (-9), 2) := by decide +kernel
theorem d_D_told_49 : decode b_D_told 49 = .ok (.istore 7, 2) := by decide +kernel
theorem d_D_told_51 : decode b_D_told 51 = .ok (.aload_n 0, 1) := by decide +kernel
theorem d_D_told_52 : decode b_D_told 52 = .ok (.getfield 29, 3) := by decide +kernel
theorem d_D_told_55 : decode b_D_told 55 = .ok (.getfield 117, 3) := by decide +kernel
theorem d_D_told_58 : decode b_D_told 58 = .ok (.aload_n 0, 1) := by decide +kernel
theorem d_D_told_59 : decode b_D_told 59 = .ok (.getfield 40, 3) := by decide +kernel
theorem d_D_told_62 : decode b_D_told 62 = .ok (.invokestatic 177, 3) := by decide +kernel
theorem d_D_told_65 : decode b_D_told 65 = .ok (.iconst 0, 1) := by decide +kernel
theorem d_D_told_66 : decode b_D_told 66 = .ok (.istore 8, 2) := by decide +kernel
theorem d_D_told_68 : decode b_D_told 68 = .ok (.iload 8, 2) := by decide +kernel
theorem d_D_told_70 : decode b_D_told 70 = .ok (.iload_n 2, 1) := by decide +kernel
theorem d_D_told_71 : decode b_D_told 71 = .ok (.if_icmp .ge 62, 3) := by decide +kernel
theorem d_D_told_74 : decode b_D_told 74 = .ok (.aload_n 0, 1) := by decide +kernel
theorem d_D_told_75 : decode b_D_told 75 = .ok (.aload_n 0, 1) := by decide +kernel
theorem d_D_told_76 : decode b_D_told 76 = .ok (.getfield 40, 3) := by decide +kernel
theorem d_D_told_79 : decode b_D_told 79 = .ok (.aload_n 0, 1) := by decide +kernel
theorem d_D_told_80 : decode b_D_told 80 = .ok (.getfield 43, 3) := by decide +kernel
theorem d_D_told_83 : decode b_D_told 83 = .ok (.iload 8, 2) := by decide +kernel
theorem d_D_told_85 : decode b_D_told 85 = .ok (.iaload, 1) := by decide +kernel
theorem d_D_told_86 : decode b_D_told 86 = .ok (.invokevirtual 140, 3) := by decide +kernel
theorem d_D_told_89 : decode b_D_told 89 = .ok (.istore 9, 2) := by decide +kernel
theorem d_D_told_91 : decode b_D_told 91 = .ok (.iload 6, 2) := by decide +kernel
theorem d_D_told_93 : decode b_D_told 93 = .ok (.bipush (-9), 2) := by decide +kernel
theorem d_D_told_95 : decode b_D_told 95 = .ok (.if_icmp .ne 12, 3) := by decide +kernel
theorem d_D_told_98 : decode b_D_told 98 = .ok (.iload 9, 2) := by decide +kernel
theorem d_D_told_100 : decode b_D_told 100 = .ok (.ifCond .eq 7, 3) := by decide +kernel
theorem d_D_told_103 : decode b_D_told 103 = .ok (.iload 8, 2) := by decide +kernel
theorem d_D_told_105 : decode b_D_told 105 = .ok (.istore 6, 2) := by decide +kernel
theorem d_D_told_107 : decode b_D_told 107 = .ok (.iload 7, 2) := by decide +kernel
theorem d_D_told_109 : decode b_D_told 109 = .ok (.bipush (-9), 2) := by decide +kernel
theorem d_D_told_111 : decode b_D_told 111 = .ok (.if_icmp .ne 16, 3) := by decide +kernel
theorem d_D_told_114 : decode b_D_told 114 = .ok (.iload 9, 2) := by decide +kernel
theorem d_D_told_116 : decode b_D_told 116 = .ok (.iload_n 1, 1) := by decide +kernel
theorem d_D_told_117 : decode b_D_told 117 = .ok (.invokestatic 150, 3) := by decide +kernel
theorem d_D_told_120 : decode b_D_told 120 = .ok (.ifCond .eq 7, 3) := by decide +kernel
theorem d_D_told_123 : decode b_D_told 123 = .ok (.iload 8, 2) := by decide +kernel
theorem d_D_told_125 : decode b_D_told 125 = .ok (.istore 7, 2) := by decide +kernel
theorem d_D_told_127 : decode b_D_told 127 = .ok (.iinc 8 1, 3) := by decide +kernel
theorem d_D_told_130 : decode b_D_told 130 = .ok (.goto (-62), 3) := by decide +kernel
theorem d_D_told_133 : decode b_D_told 133 = .ok (.iload 5, 2) := by decide +kernel
theorem d_D_told_135 : decode b_D_told 135 = .ok (.iconst 2, 1) := by decide +kernel
theorem d_D_told_136 : decode b_D_told 136 = .ok (.if_icmp .ne 10, 3) := by decide +kernel
theorem d_D_told_139 : decode b_D_told 139 = .ok (.aload_n 0, 1) := by decide +kernel
theorem d_D_told_140 : decode b_D_told 140 = .ok (.getfield 40, 3) := by decide +kernel
theorem d_D_told_143 : decode b_D_told 143 = .ok (.iload_n 1, 1) := by decide +kernel
theorem d_D_told_144 : decode b_D_told 144 = .ok (.iaload, 1) := by decide +kernel
theorem d_D_told_145 : decode b_D_told 145 = .ok (.ireturn, 1) := by decide +kernel
theorem d_D_told_146 : decode b_D_told 146 = .ok (.iload 5, 2) := by decide +kernel
theorem d_D_told_148 : decode b_D_told 148 = .ok (.ifCond .ne 8, 3) := by decide +kernel
theorem d_D_told_151 : decode b_D_told 151 = .ok (.iload 6, 2) := by decide +kernel
theorem d_D_told_153 : decode b_D_told 153 = .ok (.goto 5, 3) := by decide +kernel
theorem d_D_told_156 : decode b_D_told 156 = .ok (.iload 7, 2) := by decide +kernel
theorem d_D_told_158 : decode b_D_told 158 = .ok (.ireturn, 1) := by decide +kernel
abbrev b_D_wet : ByteArray := prog_1_method_23_code
def y_D_wet : MethodName := ⟨R_D, "wet", "(II)I"⟩
theorem mc_D_wet : Cond.code y_D_wet b_D_wet 7 (Option.some .int) ∈ lw_use := g_use (List.mem_of_getElem? (i := 389) (by decide +kernel)) rfl
theorem d_D_wet_0 : decode b_D_wet 0 = .ok (.iload_n 1, 1) := by decide +kernel
theorem d_D_wet_1 : decode b_D_wet 1 = .ok (.ifCond .lt 20, 3) := by decide +kernel
theorem d_D_wet_4 : decode b_D_wet 4 = .ok (.iload_n 1, 1) := by decide +kernel
theorem d_D_wet_5 : decode b_D_wet 5 = .ok (.aload_n 0, 1) := by decide +kernel
theorem d_D_wet_6 : decode b_D_wet 6 = .ok (.invokevirtual 107, 3) := by decide +kernel
theorem d_D_wet_9 : decode b_D_wet 9 = .ok (.if_icmp .gt 12, 3) := by decide +kernel
theorem d_D_wet_12 : decode b_D_wet 12 = .ok (.iload_n 2, 1) := by decide +kernel
theorem d_D_wet_13 : decode b_D_wet 13 = .ok (.ifCond .lt 8, 3) := by decide +kernel
theorem d_D_wet_16 : decode b_D_wet 16 = .ok (.iload_n 2, 1) := by decide +kernel
theorem d_D_wet_17 : decode b_D_wet 17 = .ok (.iconst 2, 1) := by decide +kernel
theorem d_D_wet_18 : decode b_D_wet 18 = .ok (.if_icmp .le 6, 3) := by decide +kernel
theorem d_D_wet_21 : decode b_D_wet 21 = .ok (.bipush (-2), 2) := by decide +kernel
theorem d_D_wet_23 : decode b_D_wet 23 = .ok (.ireturn, 1) := by decide +kernel
theorem d_D_wet_24 : decode b_D_wet 24 = .ok (.iconst 0, 1) := by decide +kernel
theorem d_D_wet_25 : decode b_D_wet 25 = .ok (.istore_n 3, 1) := by decide +kernel
theorem d_D_wet_26 : decode b_D_wet 26 = .ok (.aload_n 0, 1) := by decide +kernel
theorem d_D_wet_27 : decode b_D_wet 27 = .ok (.invokevirtual 107, 3) := by decide +kernel
theorem d_D_wet_30 : decode b_D_wet 30 = .ok (.istore 4, 2) := by decide +kernel
theorem d_D_wet_32 : decode b_D_wet 32 = .ok (.iconst 0, 1) := by decide +kernel
theorem d_D_wet_33 : decode b_D_wet 33 = .ok (.istore 5, 2) := by decide +kernel
theorem d_D_wet_35 : decode b_D_wet 35 = .ok (.iconst 0, 1) := by decide +kernel
theorem d_D_wet_36 : decode b_D_wet 36 = .ok (.istore 6, 2) := by decide +kernel
theorem d_D_wet_38 : decode b_D_wet 38 = .ok (.iload 6, 2) := by decide +kernel
theorem d_D_wet_40 : decode b_D_wet 40 = .ok (.aload_n 0, 1) := by decide +kernel
theorem d_D_wet_41 : decode b_D_wet 41 = .ok (.invokevirtual 107, 3) := by decide +kernel
theorem d_D_wet_44 : decode b_D_wet 44 = .ok (.if_icmp .gt 36, 3) := by decide +kernel
theorem d_D_wet_47 : decode b_D_wet 47 = .ok (.aload_n 0, 1) := by decide +kernel
theorem d_D_wet_48 : decode b_D_wet 48 = .ok (.iload 6, 2) := by decide +kernel
theorem d_D_wet_50 : decode b_D_wet 50 = .ok (.invokevirtual 144, 3) := by decide +kernel
theorem d_D_wet_53 : decode b_D_wet 53 = .ok (.iload_n 1, 1) := by decide +kernel
theorem d_D_wet_54 : decode b_D_wet 54 = .ok (.if_icmp .ne 20, 3) := by decide +kernel
theorem d_D_wet_57 : decode b_D_wet 57 = .ok (.iinc 3 1, 3) := by decide +kernel
theorem d_D_wet_60 : decode b_D_wet 60 = .ok (.iload 4, 2) := by decide +kernel
theorem d_D_wet_62 : decode b_D_wet 62 = .ok (.iload 6, 2) := by decide +kernel
theorem d_D_wet_64 : decode b_D_wet 64 = .ok (.iand, 1) := by decide +kernel
theorem d_D_wet_65 : decode b_D_wet 65 = .ok (.istore 4, 2) := by decide +kernel
theorem d_D_wet_67 : decode b_D_wet 67 = .ok (.iload 5, 2) := by decide +kernel
theorem d_D_wet_69 : decode b_D_wet 69 = .ok (.iload 6, 2) := by decide +kernel
theorem d_D_wet_71 : decode b_D_wet 71 = .ok (.ior, 1) := by decide +kernel
theorem d_D_wet_72 : decode b_D_wet 72 = .ok (.istore 5, 2) := by decide +kernel
theorem d_D_wet_74 : decode b_D_wet 74 = .ok (.iinc 6 1, 3) := by decide +kernel
theorem d_D_wet_77 : decode b_D_wet 77 = .ok (.goto (-39), 3) := by decide +kernel
theorem d_D_wet_80 : decode b_D_wet 80 = .ok (.iload_n 2, 1) := by decide +kernel
theorem d_D_wet_81 : decode b_D_wet 81 = .ok (.ifCond .ne 5, 3) := by decide +kernel
theorem d_D_wet_84 : decode b_D_wet 84 = .ok (.iload_n 3, 1) := by decide +kernel
theorem d_D_wet_85 : decode b_D_wet 85 = .ok (.ireturn, 1) := by decide +kernel
theorem d_D_wet_86 : decode b_D_wet 86 = .ok (.iload_n 3, 1) := by decide +kernel
theorem d_D_wet_87 : decode b_D_wet 87 = .ok (.ifCond .ne 6, 3) := by decide +kernel
theorem d_D_wet_90 : decode b_D_wet 90 = .ok (.bipush (-9), 2) := by decide +kernel
theorem d_D_wet_92 : decode b_D_wet 92 = .ok (.ireturn, 1) := by decide +kernel
theorem d_D_wet_93 : decode b_D_wet 93 = .ok (.iload_n 2, 1) := by decide +kernel
theorem d_D_wet_94 : decode b_D_wet 94 = .ok (.iconst 1, 1) := by decide +kernel
theorem d_D_wet_95 : decode b_D_wet 95 = .ok (.if_icmp .ne 8, 3) := by decide +kernel
theorem d_D_wet_98 : decode b_D_wet 98 = .ok (.iload 4, 2) := by decide +kernel
theorem d_D_wet_100 : decode b_D_wet 100 = .ok (.goto 12, 3) := by decide +kernel
theorem d_D_wet_103 : decode b_D_wet 103 = .ok (.aload_n 0, 1) := by decide +kernel
theorem d_D_wet_104 : decode b_D_wet 104 = .ok (.invokevirtual 107, 3) := by decide +kernel
theorem d_D_wet_107 : decode b_D_wet 107 = .ok (.iload 5, 2) := by decide +kernel
theorem d_D_wet_109 : decode b_D_wet 109 = .ok (.iconst (-1), 1) := by decide +kernel
theorem d_D_wet_110 : decode b_D_wet 110 = .ok (.ixor, 1) := by decide +kernel
theorem d_D_wet_111 : decode b_D_wet 111 = .ok (.iand, 1) := by decide +kernel
theorem d_D_wet_112 : decode b_D_wet 112 = .ok (.ireturn, 1) := by decide +kernel
abbrev b_D_net : ByteArray := prog_1_method_24_code
def y_D_net : MethodName := ⟨R_D, "net", "(I)I"⟩
theorem mc_D_net : Cond.code y_D_net b_D_net 2 (Option.some .int) ∈ lw_use := g_use (List.mem_of_getElem? (i := 393) (by decide +kernel)) rfl
theorem d_D_net_0 : decode b_D_net 0 = .ok (.aload_n 0, 1) := by decide +kernel
theorem d_D_net_1 : decode b_D_net 1 = .ok (.iload_n 1, 1) := by decide +kernel
theorem d_D_net_2 : decode b_D_net 2 = .ok (.invokevirtual 113, 3) := by decide +kernel
theorem d_D_net_5 : decode b_D_net 5 = .ok (.ifCond .eq 14, 3) := by decide +kernel
theorem d_D_net_8 : decode b_D_net 8 = .ok (.bipush 100, 2) := by decide +kernel
theorem d_D_net_10 : decode b_D_net 10 = .ok (.aload_n 0, 1) := by decide +kernel
theorem d_D_net_11 : decode b_D_net 11 = .ok (.iload_n 1, 1) := by decide +kernel
theorem d_D_net_12 : decode b_D_net 12 = .ok (.invokevirtual 181, 3) := by decide +kernel
theorem d_D_net_15 : decode b_D_net 15 = .ok (.iadd, 1) := by decide +kernel
theorem d_D_net_16 : decode b_D_net 16 = .ok (.goto 4, 3) := by decide +kernel
theorem d_D_net_19 : decode b_D_net 19 = .ok (.iconst (-1), 1) := by decide +kernel
theorem d_D_net_20 : decode b_D_net 20 = .ok (.ireturn, 1) := by decide +kernel
abbrev b_D_payings : ByteArray := prog_1_method_25_code
def y_D_payings : MethodName := ⟨R_D, "payings", "()I"⟩
theorem mc_D_payings : Cond.code y_D_payings b_D_payings 3 (Option.some .int) ∈ lw_use := g_use (List.mem_of_getElem? (i := 401) (by decide +kernel)) rfl
theorem d_D_payings_0 : decode b_D_payings 0 = .ok (.iconst 0, 1) := by decide +kernel
theorem d_D_payings_1 : decode b_D_payings 1 = .ok (.istore_n 1, 1) := by decide +kernel
theorem d_D_payings_2 : decode b_D_payings 2 = .ok (.iconst 0, 1) := by decide +kernel
theorem d_D_payings_3 : decode b_D_payings 3 = .ok (.istore_n 2, 1) := by decide +kernel
theorem d_D_payings_4 : decode b_D_payings 4 = .ok (.iload_n 2, 1) := by decide +kernel
theorem d_D_payings_5 : decode b_D_payings 5 = .ok (.aload_n 0, 1) := by decide +kernel
theorem d_D_payings_6 : decode b_D_payings 6 = .ok (.getfield 69, 3) := by decide +kernel
theorem d_D_payings_9 : decode b_D_payings 9 = .ok (.if_icmp .ge 24, 3) := by decide +kernel
theorem d_D_payings_12 : decode b_D_payings 12 = .ok (.aload_n 0, 1) := by decide +kernel
theorem d_D_payings_13 : decode b_D_payings 13 = .ok (.iload_n 2, 1) := by decide +kernel
theorem d_D_payings_14 : decode b_D_payings 14 = .ok (.invokevirtual 181, 3) := by decide +kernel
theorem d_D_payings_17 : decode b_D_payings 17 = .ok (.ifCond .eq 10, 3) := by decide +kernel
theorem d_D_payings_20 : decode b_D_payings 20 = .ok (.iload_n 1, 1) := by decide +kernel
theorem d_D_payings_21 : decode b_D_payings 21 = .ok (.iload_n 2, 1) := by decide +kernel
theorem d_D_payings_22 : decode b_D_payings 22 = .ok (.invokestatic 98, 3) := by decide +kernel
theorem d_D_payings_25 : decode b_D_payings 25 = .ok (.ior, 1) := by decide +kernel
theorem d_D_payings_26 : decode b_D_payings 26 = .ok (.istore_n 1, 1) := by decide +kernel
theorem d_D_payings_27 : decode b_D_payings 27 = .ok (.iinc 2 1, 3) := by decide +kernel
theorem d_D_payings_30 : decode b_D_payings 30 = .ok (.goto (-26), 3) := by decide +kernel
theorem d_D_payings_33 : decode b_D_payings 33 = .ok (.iload_n 1, 1) := by decide +kernel
theorem d_D_payings_34 : decode b_D_payings 34 = .ok (.invokestatic 184, 3) := by decide +kernel
theorem d_D_payings_37 : decode b_D_payings 37 = .ok (.aload_n 0, 1) := by decide +kernel
theorem d_D_payings_38 : decode b_D_payings 38 = .ok (.iload_n 1, 1) := by decide +kernel
theorem d_D_payings_39 : decode b_D_payings 39 = .ok (.invokevirtual 189, 3) := by decide +kernel
theorem d_D_payings_42 : decode b_D_payings 42 = .ok (.isub, 1) := by decide +kernel
theorem d_D_payings_43 : decode b_D_payings 43 = .ok (.ireturn, 1) := by decide +kernel
abbrev b_D_share : ByteArray := prog_1_method_26_code
def y_D_share : MethodName := ⟨R_D, "share", "(IIZ)I"⟩
theorem mc_D_share : Cond.code y_D_share b_D_share 8 (Option.some .int) ∈ lw_use := g_use (List.mem_of_getElem? (i := 410) (by decide +kernel)) rfl
theorem d_D_share_0 : decode b_D_share 0 = .ok (.aload_n 0, 1) := by decide +kernel
theorem d_D_share_1 : decode b_D_share 1 = .ok (.iload_n 1, 1) := by decide +kernel
theorem d_D_share_2 : decode b_D_share 2 = .ok (.invokevirtual 113, 3) := by decide +kernel
theorem d_D_share_5 : decode b_D_share 5 = .ok (.ifCond .ne 5, 3) := by decide +kernel
theorem d_D_share_8 : decode b_D_share 8 = .ok (.iconst (-1), 1) := by decide +kernel
theorem d_D_share_9 : decode b_D_share 9 = .ok (.ireturn, 1) := by decide +kernel
theorem d_D_share_10 : decode b_D_share 10 = .ok (.iload_n 2, 1) := by decide +kernel
theorem d_D_share_11 : decode b_D_share 11 = .ok (.invokestatic 134, 3) := by decide +kernel
theorem d_D_share_14 : decode b_D_share 14 = .ok (.ifCond .ne 6, 3) := by decide +kernel
theorem d_D_share_17 : decode b_D_share 17 = .ok (.bipush (-2), 2) := by decide +kernel
theorem d_D_share_19 : decode b_D_share 19 = .ok (.ireturn, 1) := by decide +kernel
theorem d_D_share_20 : decode b_D_share 20 = .ok (.aload_n 0, 1) := by decide +kernel
theorem d_D_share_21 : decode b_D_share 21 = .ok (.iload_n 2, 1) := by decide +kernel
theorem d_D_share_22 : decode b_D_share 22 = .ok (.invokevirtual 167, 3) := by decide +kernel
theorem d_D_share_25 : decode b_D_share 25 = .ok (.iconst 0, 1) := by decide +kernel
theorem d_D_share_26 : decode b_D_share 26 = .ok (.istore 4, 2) := by decide +kernel
theorem d_D_share_28 : decode b_D_share 28 = .ok (.iload 4, 2) := by decide +kernel
theorem d_D_share_30 : decode b_D_share 30 = .ok (.aload_n 0, 1) := by decide +kernel
theorem d_D_share_31 : decode b_D_share 31 = .ok (.invokevirtual 107, 3) := by decide +kernel
theorem d_D_share_34 : decode b_D_share 34 = .ok (.if_icmp .gt 31, 3) := by decide +kernel
theorem d_D_share_37 : decode b_D_share 37 = .ok (.aload_n 0, 1) := by decide +kernel
theorem d_D_share_38 : decode b_D_share 38 = .ok (.getfield 55, 3) := by decide +kernel
theorem d_D_share_41 : decode b_D_share 41 = .ok (.iload 4, 2) := by decide +kernel
theorem d_D_share_43 : decode b_D_share 43 = .ok (.aload_n 0, 1) := by decide +kernel
theorem d_D_share_44 : decode b_D_share 44 = .ok (.getfield 49, 3) := by decide +kernel
theorem d_D_share_47 : decode b_D_share 47 = .ok (.aload_n 0, 1) := by decide +kernel
theorem d_D_share_48 : decode b_D_share 48 = .ok (.aload_n 0, 1) := by decide +kernel
theorem d_D_share_49 : decode b_D_share 49 = .ok (.iload 4, 2) := by decide +kernel
theorem d_D_share_51 : decode b_D_share 51 = .ok (.invokevirtual 110, 3) := by decide +kernel
theorem d_D_share_54 : decode b_D_share 54 = .ok (.invokevirtual 170, 3) := by decide +kernel
theorem d_D_share_57 : decode b_D_share 57 = .ok (.iaload, 1) := by decide +kernel
theorem d_D_share_58 : decode b_D_share 58 = .ok (.iastore, 1) := by decide +kernel
theorem d_D_share_59 : decode b_D_share 59 = .ok (.iinc 4 1, 3) := by decide +kernel
theorem d_D_share_62 : decode b_D_share 62 = .ok (.goto (-34), 3) := by decide +kernel
theorem d_D_share_65 : decode b_D_share 65 = .ok (.iconst 0, 1) := by decide +kernel
theorem d_D_share_66 : decode b_D_share 66 = .ok (.istore 4, 2) := by decide +kernel
theorem d_D_share_68 : decode b_D_share 68 = .ok (.iconst 0, 1) := by decide +kernel
theorem d_D_share_69 : decode b_D_share 69 = .ok (.istore 5, 2) := by decide +kernel
theorem d_D_share_71 : decode b_D_share 71 = .ok (.iload 5, 2) := by decide +kernel
theorem d_D_share_73 : decode b_D_share 73 = .ok (.aload_n 0, 1) := by decide +kernel
theorem d_D_share_74 : decode b_D_share 74 = .ok (.invokevirtual 107, 3) := by decide +kernel
theorem d_D_share_77 : decode b_D_share 77 = .ok (.if_icmp .gt 75, 3) := by decide +kernel
theorem d_D_share_80 : decode b_D_share 80 = .ok (.iload 5, 2) := by decide +kernel
theorem d_D_share_82 : decode b_D_share 82 = .ok (.iload_n 1, 1) := by decide +kernel
theorem d_D_share_83 : decode b_D_share 83 = .ok (.invokestatic 150, 3) := by decide +kernel
theorem d_D_share_86 : decode b_D_share 86 = .ok (.ifCond .ne 60, 3) := by decide +kernel
theorem d_D_share_89 : decode b_D_share 89 = .ok (.iload 5, 2) := by decide +kernel
theorem d_D_share_91 : decode b_D_share 91 = .ok (.invokestatic 184, 3) := by decide +kernel
theorem d_D_share_94 : decode b_D_share 94 = .ok (.istore 6, 2) := by decide +kernel
theorem d_D_share_96 : decode b_D_share 96 = .ok (.getstatic 192, 3) := by decide +kernel
theorem d_D_share_99 : decode b_D_share 99 = .ok (.iload 6, 2) := by decide +kernel
theorem d_D_share_101 : decode b_D_share 101 = .ok (.iaload, 1) := by decide +kernel
theorem d_D_share_102 : decode b_D_share 102 = .ok (.getstatic 192, 3) := by decide +kernel
theorem d_D_share_105 : decode b_D_share 105 = .ok (.aload_n 0, 1) := by decide +kernel
theorem d_D_share_106 : decode b_D_share 106 = .ok (.getfield 69, 3) := by decide +kernel
theorem d_D_share_109 : decode b_D_share 109 = .ok (.iconst 1, 1) := by decide +kernel
theorem d_D_share_110 : decode b_D_share 110 = .ok (.isub, 1) := by decide +kernel
theorem d_D_share_111 : decode b_D_share 111 = .ok (.iload 6, 2) := by decide +kernel
theorem d_D_share_113 : decode b_D_share 113 = .ok (.isub, 1) := by decide +kernel
theorem d_D_share_114 : decode b_D_share 114 = .ok (.iaload, 1) := by decide +kernel
theorem d_D_share_115 : decode b_D_share 115 = .ok (.imul, 1) := by decide +kernel
theorem d_D_share_116 : decode b_D_share 116 = .ok (.istore 7, 2) := by decide +kernel
theorem d_D_share_118 : decode b_D_share 118 = .ok (.iload 4, 2) := by decide +kernel
theorem d_D_share_120 : decode b_D_share 120 = .ok (.iload 7, 2) := by decide +kernel
theorem d_D_share_122 : decode b_D_share 122 = .ok (.aload_n 0, 1) := by decide +kernel
theorem d_D_share_123 : decode b_D_share 123 = .ok (.getfield 55, 3) := by decide +kernel
theorem d_D_share_126 : decode b_D_share 126 = .ok (.iload 5, 2) := by decide +kernel
theorem d_D_share_128 : decode b_D_share 128 = .ok (.iaload, 1) := by decide +kernel
theorem d_D_share_129 : decode b_D_share 129 = .ok (.aload_n 0, 1) := by decide +kernel
theorem d_D_share_130 : decode b_D_share 130 = .ok (.getfield 55, 3) := by decide +kernel
theorem d_D_share_133 : decode b_D_share 133 = .ok (.iload 5, 2) := by decide +kernel
theorem d_D_share_135 : decode b_D_share 135 = .ok (.iload_n 1, 1) := by decide +kernel
theorem d_D_share_136 : decode b_D_share 136 = .ok (.invokestatic 98, 3) := by decide +kernel
theorem d_D_share_139 : decode b_D_share 139 = .ok (.ior, 1) := by decide +kernel
theorem d_D_share_140 : decode b_D_share 140 = .ok (.iaload, 1) := by decide +kernel
theorem d_D_share_141 : decode b_D_share 141 = .ok (.isub, 1) := by decide +kernel
theorem d_D_share_142 : decode b_D_share 142 = .ok (.imul, 1) := by decide +kernel
theorem d_D_share_143 : decode b_D_share 143 = .ok (.iadd, 1) := by decide +kernel
theorem d_D_share_144 : decode b_D_share 144 = .ok (.istore 4, 2) := by decide +kernel
theorem d_D_share_146 : decode b_D_share 146 = .ok (.iinc 5 1, 3) := by decide +kernel
theorem d_D_share_149 : decode b_D_share 149 = .ok (.goto (-78), 3) := by decide +kernel
theorem d_D_share_152 : decode b_D_share 152 = .ok (.iload 4, 2) := by decide +kernel
theorem d_D_share_154 : decode b_D_share 154 = .ok (.getstatic 192, 3) := by decide +kernel
theorem d_D_share_157 : decode b_D_share 157 = .ok (.aload_n 0, 1) := by decide +kernel
theorem d_D_share_158 : decode b_D_share 158 = .ok (.getfield 69, 3) := by decide +kernel
theorem d_D_share_161 : decode b_D_share 161 = .ok (.iaload, 1) := by decide +kernel
theorem d_D_share_162 : decode b_D_share 162 = .ok (.iload_n 3, 1) := by decide +kernel
theorem d_D_share_163 : decode b_D_share 163 = .ok (.invokestatic 195, 3) := by decide +kernel
theorem d_D_share_166 : decode b_D_share 166 = .ok (.ireturn, 1) := by decide +kernel
abbrev b_D_rests : ByteArray := prog_1_method_27_code
def y_D_rests : MethodName := ⟨R_D, "rests", "(IIIII)I"⟩
theorem mc_D_rests : Cond.code y_D_rests b_D_rests 10 (Option.some .int) ∈ lw_use := g_use (List.mem_of_getElem? (i := 422) (by decide +kernel)) rfl
theorem d_D_rests_0 : decode b_D_rests 0 = .ok (.aload_n 0, 1) := by decide +kernel
theorem d_D_rests_1 : decode b_D_rests 1 = .ok (.iload_n 1, 1) := by decide +kernel
theorem d_D_rests_2 : decode b_D_rests 2 = .ok (.invokevirtual 113, 3) := by decide +kernel
theorem d_D_rests_5 : decode b_D_rests 5 = .ok (.ifCond .eq 19, 3) := by decide +kernel
theorem d_D_rests_8 : decode b_D_rests 8 = .ok (.aload_n 0, 1) := by decide +kernel
theorem d_D_rests_9 : decode b_D_rests 9 = .ok (.iload_n 2, 1) := by decide +kernel
theorem d_D_rests_10 : decode b_D_rests 10 = .ok (.invokevirtual 113, 3) := by decide +kernel
theorem d_D_rests_13 : decode b_D_rests 13 = .ok (.ifCond .eq 11, 3) := by decide +kernel
theorem d_D_rests_16 : decode b_D_rests 16 = .ok (.aload_n 0, 1) := by decide +kernel
theorem d_D_rests_17 : decode b_D_rests 17 = .ok (.iload_n 3, 1) := by decide +kernel
theorem d_D_rests_18 : decode b_D_rests 18 = .ok (.invokevirtual 113, 3) := by decide +kernel
theorem d_D_rests_21 : decode b_D_rests 21 = .ok (.ifCond .ne 5, 3) := by decide +kernel
theorem d_D_rests_24 : decode b_D_rests 24 = .ok (.iconst (-1), 1) := by decide +kernel
theorem d_D_rests_25 : decode b_D_rests 25 = .ok (.ireturn, 1) := by decide +kernel
theorem d_D_rests_26 : decode b_D_rests 26 = .ok (.iload_n 1, 1) := by decide +kernel
theorem d_D_rests_27 : decode b_D_rests 27 = .ok (.iload_n 2, 1) := by decide +kernel
theorem d_D_rests_28 : decode b_D_rests 28 = .ok (.if_icmp .eq 22, 3) := by decide +kernel
theorem d_D_rests_31 : decode b_D_rests 31 = .ok (.iload 4, 2) := by decide +kernel
theorem d_D_rests_33 : decode b_D_rests 33 = .ok (.invokestatic 134, 3) := by decide +kernel
theorem d_D_rests_36 : decode b_D_rests 36 = .ok (.ifCond .eq 14, 3) := by decide +kernel
theorem d_D_rests_39 : decode b_D_rests 39 = .ok (.iload 5, 2) := by decide +kernel
theorem d_D_rests_41 : decode b_D_rests 41 = .ok (.ifCond .lt 9, 3) := by decide +kernel
theorem d_D_rests_44 : decode b_D_rests 44 = .ok (.iload 5, 2) := by decide +kernel
theorem d_D_rests_46 : decode b_D_rests 46 = .ok (.iconst 1, 1) := by decide +kernel
theorem d_D_rests_47 : decode b_D_rests 47 = .ok (.if_icmp .le 6, 3) := by decide +kernel
theorem d_D_rests_50 : decode b_D_rests 50 = .ok (.bipush (-2), 2) := by decide +kernel
theorem d_D_rests_52 : decode b_D_rests 52 = .ok (.ireturn, 1) := by decide +kernel
theorem d_D_rests_53 : decode b_D_rests 53 = .ok (.aload_n 0, 1) := by decide +kernel
theorem d_D_rests_54 : decode b_D_rests 54 = .ok (.iload_n 3, 1) := by decide +kernel
theorem d_D_rests_55 : decode b_D_rests 55 = .ok (.iload 4, 2) := by decide +kernel
theorem d_D_rests_57 : decode b_D_rests 57 = .ok (.invokevirtual 199, 3) := by decide +kernel
theorem d_D_rests_60 : decode b_D_rests 60 = .ok (.iconst 0, 1) := by decide +kernel
theorem d_D_rests_61 : decode b_D_rests 61 = .ok (.istore 6, 2) := by decide +kernel
theorem d_D_rests_63 : decode b_D_rests 63 = .ok (.bipush (-9), 2) := by decide +kernel
theorem d_D_rests_65 : decode b_D_rests 65 = .ok (.istore 7, 2) := by decide +kernel
theorem d_D_rests_67 : decode b_D_rests 67 = .ok (.iconst 0, 1) := by decide +kernel
theorem d_D_rests_68 : decode b_D_rests 68 = .ok (.istore 8, 2) := by decide +kernel
theorem d_D_rests_70 : decode b_D_rests 70 = .ok (.iload 8, 2) := by decide +kernel
theorem d_D_rests_72 : decode b_D_rests 72 = .ok (.iconst 3, 1) := by decide +kernel
theorem d_D_rests_73 : decode b_D_rests 73 = .ok (.if_icmp .gt 73, 3) := by decide +kernel
theorem d_D_rests_76 : decode b_D_rests 76 = .ok (.iconst 0, 1) := by decide +kernel
theorem d_D_rests_77 : decode b_D_rests 77 = .ok (.istore 9, 2) := by decide +kernel
theorem d_D_rests_79 : decode b_D_rests 79 = .ok (.iload 9, 2) := by decide +kernel
theorem d_D_rests_81 : decode b_D_rests 81 = .ok (.iconst 3, 1) := by decide +kernel
theorem d_D_rests_82 : decode b_D_rests 82 = .ok (.if_icmp .gt 58, 3) := by decide +kernel
theorem d_D_rests_85 : decode b_D_rests 85 = .ok (.aload_n 0, 1) := by decide +kernel
theorem d_D_rests_86 : decode b_D_rests 86 = .ok (.iload_n 1, 1) := by decide +kernel
theorem d_D_rests_87 : decode b_D_rests 87 = .ok (.iload 8, 2) := by decide +kernel
theorem d_D_rests_89 : decode b_D_rests 89 = .ok (.iload 9, 2) := by decide +kernel
theorem d_D_rests_91 : decode b_D_rests 91 = .ok (.invokevirtual 203, 3) := by decide +kernel
theorem d_D_rests_94 : decode b_D_rests 94 = .ok (.ifCond .eq 40, 3) := by decide +kernel
theorem d_D_rests_97 : decode b_D_rests 97 = .ok (.aload_n 0, 1) := by decide +kernel
theorem d_D_rests_98 : decode b_D_rests 98 = .ok (.iload_n 2, 1) := by decide +kernel
theorem d_D_rests_99 : decode b_D_rests 99 = .ok (.iload 9, 2) := by decide +kernel
theorem d_D_rests_101 : decode b_D_rests 101 = .ok (.iload 8, 2) := by decide +kernel
theorem d_D_rests_103 : decode b_D_rests 103 = .ok (.invokevirtual 203, 3) := by decide +kernel
theorem d_D_rests_106 : decode b_D_rests 106 = .ok (.ifCond .eq 28, 3) := by decide +kernel
theorem d_D_rests_109 : decode b_D_rests 109 = .ok (.iinc 6 1, 3) := by decide +kernel
theorem d_D_rests_112 : decode b_D_rests 112 = .ok (.iload 7, 2) := by decide +kernel
theorem d_D_rests_114 : decode b_D_rests 114 = .ok (.bipush (-9), 2) := by decide +kernel
theorem d_D_rests_116 : decode b_D_rests 116 = .ok (.if_icmp .ne 14, 3) := by decide +kernel
theorem d_D_rests_119 : decode b_D_rests 119 = .ok (.bipush 10, 2) := by decide +kernel
theorem d_D_rests_121 : decode b_D_rests 121 = .ok (.iload 8, 2) := by decide +kernel
theorem d_D_rests_123 : decode b_D_rests 123 = .ok (.imul, 1) := by decide +kernel
theorem d_D_rests_124 : decode b_D_rests 124 = .ok (.iload 9, 2) := by decide +kernel
theorem d_D_rests_126 : decode b_D_rests 126 = .ok (.iadd, 1) := by decide +kernel
theorem d_D_rests_127 : decode b_D_rests 127 = .ok (.goto 5, 3) := by decide +kernel
theorem d_D_rests_130 : decode b_D_rests 130 = .ok (.iload 7, 2) := by decide +kernel
theorem d_D_rests_132 : decode b_D_rests 132 = .ok (.istore 7, 2) := by decide +kernel
theorem d_D_rests_134 : decode b_D_rests 134 = .ok (.iinc 9 1, 3) := by decide +kernel
theorem d_D_rests_137 : decode b_D_rests 137 = .ok (.goto (-58), 3) := by decide +kernel
theorem d_D_rests_140 : decode b_D_rests 140 = .ok (.iinc 8 1, 3) := by decide +kernel
theorem d_D_rests_143 : decode b_D_rests 143 = .ok (.goto (-73), 3) := by decide +kernel
theorem d_D_rests_146 : decode b_D_rests 146 = .ok (.iload 5, 2) := by decide +kernel
theorem d_D_rests_148 : decode b_D_rests 148 = .ok (.ifCond .ne 8, 3) := by decide +kernel
theorem d_D_rests_151 : decode b_D_rests 151 = .ok (.iload 6, 2) := by decide +kernel
theorem d_D_rests_153 : decode b_D_rests 153 = .ok (.goto 5, 3) := by decide +kernel
theorem d_D_rests_156 : decode b_D_rests 156 = .ok (.iload 7, 2) := by decide +kernel
theorem d_D_rests_158 : decode b_D_rests 158 = .ok (.ireturn, 1) := by decide +kernel
abbrev b_D_threes : ByteArray := prog_1_method_28_code
def y_D_threes : MethodName := ⟨R_D, "threes", "(IIIIZ)I"⟩
theorem mc_D_threes : Cond.code y_D_threes b_D_threes 8 (Option.some .int) ∈ lw_use := g_use (List.mem_of_getElem? (i := 438) (by decide +kernel)) rfl
theorem d_D_threes_0 : decode b_D_threes 0 = .ok (.aload_n 0, 1) := by decide +kernel
theorem d_D_threes_1 : decode b_D_threes 1 = .ok (.iload_n 1, 1) := by decide +kernel
theorem d_D_threes_2 : decode b_D_threes 2 = .ok (.invokevirtual 113, 3) := by decide +kernel
theorem d_D_threes_5 : decode b_D_threes 5 = .ok (.ifCond .ne 5, 3) := by decide +kernel
theorem d_D_threes_8 : decode b_D_threes 8 = .ok (.iconst (-1), 1) := by decide +kernel
theorem d_D_threes_9 : decode b_D_threes 9 = .ok (.ireturn, 1) := by decide +kernel
theorem d_D_threes_10 : decode b_D_threes 10 = .ok (.iload_n 2, 1) := by decide +kernel
theorem d_D_threes_11 : decode b_D_threes 11 = .ok (.invokestatic 134, 3) := by decide +kernel
theorem d_D_threes_14 : decode b_D_threes 14 = .ok (.ifCond .eq 22, 3) := by decide +kernel
theorem d_D_threes_17 : decode b_D_threes 17 = .ok (.iload_n 3, 1) := by decide +kernel
theorem d_D_threes_18 : decode b_D_threes 18 = .ok (.invokestatic 134, 3) := by decide +kernel
theorem d_D_threes_21 : decode b_D_threes 21 = .ok (.ifCond .eq 15, 3) := by decide +kernel
theorem d_D_threes_24 : decode b_D_threes 24 = .ok (.iload 4, 2) := by decide +kernel
theorem d_D_threes_26 : decode b_D_threes 26 = .ok (.ifCond .lt 10, 3) := by decide +kernel
theorem d_D_threes_29 : decode b_D_threes 29 = .ok (.iload 4, 2) := by decide +kernel
theorem d_D_threes_31 : decode b_D_threes 31 = .ok (.bipush 10, 2) := by decide +kernel
theorem d_D_threes_33 : decode b_D_threes 33 = .ok (.if_icmp .le 6, 3) := by decide +kernel
theorem d_D_threes_36 : decode b_D_threes 36 = .ok (.bipush (-2), 2) := by decide +kernel
theorem d_D_threes_38 : decode b_D_threes 38 = .ok (.ireturn, 1) := by decide +kernel
theorem d_D_threes_39 : decode b_D_threes 39 = .ok (.iconst 0, 1) := by decide +kernel
theorem d_D_threes_40 : decode b_D_threes 40 = .ok (.istore 6, 2) := by decide +kernel
theorem d_D_threes_42 : decode b_D_threes 42 = .ok (.iconst 0, 1) := by decide +kernel
theorem d_D_threes_43 : decode b_D_threes 43 = .ok (.istore 7, 2) := by decide +kernel
theorem d_D_threes_45 : decode b_D_threes 45 = .ok (.iload 7, 2) := by decide +kernel
theorem d_D_threes_47 : decode b_D_threes 47 = .ok (.bipush 8, 2) := by decide +kernel
theorem d_D_threes_49 : decode b_D_threes 49 = .ok (.if_icmp .ge 33, 3) := by decide +kernel
theorem d_D_threes_52 : decode b_D_threes 52 = .ok (.aload_n 0, 1) := by decide +kernel
theorem d_D_threes_53 : decode b_D_threes 53 = .ok (.iload_n 1, 1) := by decide +kernel
theorem d_D_threes_54 : decode b_D_threes 54 = .ok (.iload_n 2, 1) := by decide +kernel
theorem d_D_threes_55 : decode b_D_threes 55 = .ok (.iload_n 3, 1) := by decide +kernel
theorem d_D_threes_56 : decode b_D_threes 56 = .ok (.iload 7, 2) := by decide +kernel
theorem d_D_threes_58 : decode b_D_threes 58 = .ok (.invokevirtual 207, 3) := by decide +kernel
theorem d_D_threes_61 : decode b_D_threes 61 = .ok (.ifCond .eq 15, 3) := by decide +kernel
theorem d_D_threes_64 : decode b_D_threes 64 = .ok (.iload 6, 2) := by decide +kernel
theorem d_D_threes_66 : decode b_D_threes 66 = .ok (.iload 7, 2) := by decide +kernel
theorem d_D_threes_68 : decode b_D_threes 68 = .ok (.iload 4, 2) := by decide +kernel
theorem d_D_threes_70 : decode b_D_threes 70 = .ok (.invokestatic 211, 3) := by decide +kernel
theorem d_D_threes_73 : decode b_D_threes 73 = .ok (.iadd, 1) := by decide +kernel
theorem d_D_threes_74 : decode b_D_threes 74 = .ok (.istore 6, 2) := by decide +kernel
theorem d_D_threes_76 : decode b_D_threes 76 = .ok (.iinc 7 1, 3) := by decide +kernel
theorem d_D_threes_79 : decode b_D_threes 79 = .ok (.goto (-34), 3) := by decide +kernel
theorem d_D_threes_82 : decode b_D_threes 82 = .ok (.iload 6, 2) := by decide +kernel
theorem d_D_threes_84 : decode b_D_threes 84 = .ok (.sipush 1000, 3) := by decide +kernel
theorem d_D_threes_87 : decode b_D_threes 87 = .ok (.iload 5, 2) := by decide +kernel
theorem d_D_threes_89 : decode b_D_threes 89 = .ok (.invokestatic 195, 3) := by decide +kernel
theorem d_D_threes_92 : decode b_D_threes 92 = .ok (.ireturn, 1) := by decide +kernel
abbrev b_D_seed : ByteArray := prog_1_method_29_code
def y_D_seed : MethodName := ⟨R_D, "seed", "(J)J"⟩
theorem mc_D_seed : Cond.code y_D_seed b_D_seed 5 (Option.some .long) ∈ lw_use := g_use (List.mem_of_getElem? (i := 449) (by decide +kernel)) rfl
theorem d_D_seed_0 : decode b_D_seed 0 = .ok (.aload_n 0, 1) := by decide +kernel
theorem d_D_seed_1 : decode b_D_seed 1 = .ok (.getfield 214, 3) := by decide +kernel
theorem d_D_seed_4 : decode b_D_seed 4 = .ok (.lstore_n 3, 1) := by decide +kernel
theorem d_D_seed_5 : decode b_D_seed 5 = .ok (.aload_n 0, 1) := by decide +kernel
theorem d_D_seed_6 : decode b_D_seed 6 = .ok (.lload_n 1, 1) := by decide +kernel
theorem d_D_seed_7 : decode b_D_seed 7 = .ok (.putfield 214, 3) := by decide +kernel
theorem d_D_seed_10 : decode b_D_seed 10 = .ok (.lload_n 3, 1) := by decide +kernel
theorem d_D_seed_11 : decode b_D_seed 11 = .ok (.lreturn, 1) := by decide +kernel
abbrev b_D_winters : ByteArray := prog_1_method_30_code
def y_D_winters : MethodName := ⟨R_D, "winters", "(I)I"⟩
theorem mc_D_winters : Cond.code y_D_winters b_D_winters 5 (Option.some .int) ∈ lw_use := g_use (List.mem_of_getElem? (i := 453) (by decide +kernel)) rfl
theorem d_D_winters_0 : decode b_D_winters 0 = .ok (.iload_n 1, 1) := by decide +kernel
theorem d_D_winters_1 : decode b_D_winters 1 = .ok (.iconst 1, 1) := by decide +kernel
theorem d_D_winters_2 : decode b_D_winters 2 = .ok (.if_icmp .lt 9, 3) := by decide +kernel
theorem d_D_winters_5 : decode b_D_winters 5 = .ok (.iload_n 1, 1) := by decide +kernel
theorem d_D_winters_6 : decode b_D_winters 6 = .ok (.bipush 20, 2) := by decide +kernel
theorem d_D_winters_8 : decode b_D_winters 8 = .ok (.if_icmp .le 6, 3) := by decide +kernel
theorem d_D_winters_11 : decode b_D_winters 11 = .ok (.bipush (-2), 2) := by decide +kernel
theorem d_D_winters_13 : decode b_D_winters 13 = .ok (.ireturn, 1) := by decide +kernel
theorem d_D_winters_14 : decode b_D_winters 14 = .ok (.iconst 0, 1) := by decide +kernel
theorem d_D_winters_15 : decode b_D_winters 15 = .ok (.istore_n 2, 1) := by decide +kernel
theorem d_D_winters_16 : decode b_D_winters 16 = .ok (.aload_n 0, 1) := by decide +kernel
theorem d_D_winters_17 : decode b_D_winters 17 = .ok (.getfield 29, 3) := by decide +kernel
theorem d_D_winters_20 : decode b_D_winters 20 = .ok (.getfield 117, 3) := by decide +kernel
theorem d_D_winters_23 : decode b_D_winters 23 = .ok (.aload_n 0, 1) := by decide +kernel
theorem d_D_winters_24 : decode b_D_winters 24 = .ok (.getfield 40, 3) := by decide +kernel
theorem d_D_winters_27 : decode b_D_winters 27 = .ok (.invokestatic 177, 3) := by decide +kernel
theorem d_D_winters_30 : decode b_D_winters 30 = .ok (.iconst 0, 1) := by decide +kernel
theorem d_D_winters_31 : decode b_D_winters 31 = .ok (.istore_n 3, 1) := by decide +kernel
theorem d_D_winters_32 : decode b_D_winters 32 = .ok (.iload_n 3, 1) := by decide +kernel
theorem d_D_winters_33 : decode b_D_winters 33 = .ok (.iload_n 1, 1) := by decide +kernel
theorem d_D_winters_34 : decode b_D_winters 34 = .ok (.if_icmp .ge 60, 3) := by decide +kernel
theorem d_D_winters_37 : decode b_D_winters 37 = .ok (.aload_n 0, 1) := by decide +kernel
theorem d_D_winters_38 : decode b_D_winters 38 = .ok (.aload_n 0, 1) := by decide +kernel
theorem d_D_winters_39 : decode b_D_winters 39 = .ok (.getfield 214, 3) := by decide +kernel
theorem d_D_winters_42 : decode b_D_winters 42 = .ok (.ldc2_w 218, 3) := by decide +kernel
theorem d_D_winters_45 : decode b_D_winters 45 = .ok (.lmul, 1) := by decide +kernel
theorem d_D_winters_46 : decode b_D_winters 46 = .ok (.ldc2_w 220, 3) := by decide +kernel
theorem d_D_winters_49 : decode b_D_winters 49 = .ok (.ladd, 1) := by decide +kernel
theorem d_D_winters_50 : decode b_D_winters 50 = .ok (.putfield 214, 3) := by decide +kernel
theorem d_D_winters_53 : decode b_D_winters 53 = .ok (.aload_n 0, 1) := by decide +kernel
theorem d_D_winters_54 : decode b_D_winters 54 = .ok (.getfield 214, 3) := by decide +kernel
theorem d_D_winters_57 : decode b_D_winters 57 = .ok (.bipush 33, 2) := by decide +kernel
theorem d_D_winters_59 : decode b_D_winters 59 = .ok (.lushr, 1) := by decide +kernel
theorem d_D_winters_60 : decode b_D_winters 60 = .ok (.ldc2_w 222, 3) := by decide +kernel
theorem d_D_winters_63 : decode b_D_winters 63 = .ok (.lrem, 1) := by decide +kernel
theorem d_D_winters_64 : decode b_D_winters 64 = .ok (.l2i, 1) := by decide +kernel
theorem d_D_winters_65 : decode b_D_winters 65 = .ok (.istore 4, 2) := by decide +kernel
theorem d_D_winters_67 : decode b_D_winters 67 = .ok (.iload_n 2, 1) := by decide +kernel
theorem d_D_winters_68 : decode b_D_winters 68 = .ok (.aload_n 0, 1) := by decide +kernel
theorem d_D_winters_69 : decode b_D_winters 69 = .ok (.aload_n 0, 1) := by decide +kernel
theorem d_D_winters_70 : decode b_D_winters 70 = .ok (.aload_n 0, 1) := by decide +kernel
theorem d_D_winters_71 : decode b_D_winters 71 = .ok (.aload_n 0, 1) := by decide +kernel
theorem d_D_winters_72 : decode b_D_winters 72 = .ok (.getfield 40, 3) := by decide +kernel
theorem d_D_winters_75 : decode b_D_winters 75 = .ok (.iload 4, 2) := by decide +kernel
theorem d_D_winters_77 : decode b_D_winters 77 = .ok (.invokevirtual 140, 3) := by decide +kernel
theorem d_D_winters_80 : decode b_D_winters 80 = .ok (.invokevirtual 144, 3) := by decide +kernel
theorem d_D_winters_83 : decode b_D_winters 83 = .ok (.invokevirtual 147, 3) := by decide +kernel
theorem d_D_winters_86 : decode b_D_winters 86 = .ok (.iadd, 1) := by decide +kernel
theorem d_D_winters_87 : decode b_D_winters 87 = .ok (.istore_n 2, 1) := by decide +kernel
theorem d_D_winters_88 : decode b_D_winters 88 = .ok (.iinc 3 1, 3) := by decide +kernel
theorem d_D_winters_91 : decode b_D_winters 91 = .ok (.goto (-59), 3) := by decide +kernel
theorem d_D_winters_94 : decode b_D_winters 94 = .ok (.iload_n 2, 1) := by decide +kernel
theorem d_D_winters_95 : decode b_D_winters 95 = .ok (.ireturn, 1) := by decide +kernel
abbrev b_D_keep : ByteArray := prog_1_method_31_code
def y_D_keep : MethodName := ⟨R_D, "keep", "(I)I"⟩
theorem mc_D_keep : Cond.code y_D_keep b_D_keep 2 (Option.some .int) ∈ lw_use := g_use (List.mem_of_getElem? (i := 460) (by decide +kernel)) rfl
theorem d_D_keep_0 : decode b_D_keep 0 = .ok (.iload_n 1, 1) := by decide +kernel
theorem d_D_keep_1 : decode b_D_keep 1 = .ok (.ifCond .lt 8, 3) := by decide +kernel
theorem d_D_keep_4 : decode b_D_keep 4 = .ok (.iload_n 1, 1) := by decide +kernel
theorem d_D_keep_5 : decode b_D_keep 5 = .ok (.iconst 2, 1) := by decide +kernel
theorem d_D_keep_6 : decode b_D_keep 6 = .ok (.if_icmp .lt 5, 3) := by decide +kernel
theorem d_D_keep_9 : decode b_D_keep 9 = .ok (.iconst (-1), 1) := by decide +kernel
theorem d_D_keep_10 : decode b_D_keep 10 = .ok (.ireturn, 1) := by decide +kernel
theorem d_D_keep_11 : decode b_D_keep 11 = .ok (.aload_n 0, 1) := by decide +kernel
theorem d_D_keep_12 : decode b_D_keep 12 = .ok (.getfield 37, 3) := by decide +kernel
theorem d_D_keep_15 : decode b_D_keep 15 = .ok (.iload_n 1, 1) := by decide +kernel
theorem d_D_keep_16 : decode b_D_keep 16 = .ok (.aaload, 1) := by decide +kernel
theorem d_D_keep_17 : decode b_D_keep 17 = .ok (.aload_n 0, 1) := by decide +kernel
theorem d_D_keep_18 : decode b_D_keep 18 = .ok (.getfield 29, 3) := by decide +kernel
theorem d_D_keep_21 : decode b_D_keep 21 = .ok (.invokevirtual 157, 3) := by decide +kernel
theorem d_D_keep_24 : decode b_D_keep 24 = .ok (.aload_n 0, 1) := by decide +kernel
theorem d_D_keep_25 : decode b_D_keep 25 = .ok (.dup, 1) := by decide +kernel
theorem d_D_keep_26 : decode b_D_keep 26 = .ok (.getfield 75, 3) := by decide +kernel
theorem d_D_keep_29 : decode b_D_keep 29 = .ok (.iload_n 1, 1) := by decide +kernel
theorem d_D_keep_30 : decode b_D_keep 30 = .ok (.invokestatic 98, 3) := by decide +kernel
theorem d_D_keep_33 : decode b_D_keep 33 = .ok (.ior, 1) := by decide +kernel
theorem d_D_keep_34 : decode b_D_keep 34 = .ok (.putfield 75, 3) := by decide +kernel
theorem d_D_keep_37 : decode b_D_keep 37 = .ok (.aload_n 0, 1) := by decide +kernel
theorem d_D_keep_38 : decode b_D_keep 38 = .ok (.getfield 29, 3) := by decide +kernel
theorem d_D_keep_41 : decode b_D_keep 41 = .ok (.getfield 104, 3) := by decide +kernel
theorem d_D_keep_44 : decode b_D_keep 44 = .ok (.ireturn, 1) := by decide +kernel
abbrev b_D_again : ByteArray := prog_1_method_32_code
def y_D_again : MethodName := ⟨R_D, "again", "(I)I"⟩
theorem mc_D_again : Cond.code y_D_again b_D_again 2 (Option.some .int) ∈ lw_use := g_use (List.mem_of_getElem? (i := 464) (by decide +kernel)) rfl
theorem d_D_again_0 : decode b_D_again 0 = .ok (.iload_n 1, 1) := by decide +kernel
theorem d_D_again_1 : decode b_D_again 1 = .ok (.ifCond .lt 8, 3) := by decide +kernel
theorem d_D_again_4 : decode b_D_again 4 = .ok (.iload_n 1, 1) := by decide +kernel
theorem d_D_again_5 : decode b_D_again 5 = .ok (.iconst 2, 1) := by decide +kernel
theorem d_D_again_6 : decode b_D_again 6 = .ok (.if_icmp .lt 5, 3) := by decide +kernel
theorem d_D_again_9 : decode b_D_again 9 = .ok (.iconst (-1), 1) := by decide +kernel
theorem d_D_again_10 : decode b_D_again 10 = .ok (.ireturn, 1) := by decide +kernel
theorem d_D_again_11 : decode b_D_again 11 = .ok (.aload_n 0, 1) := by decide +kernel
theorem d_D_again_12 : decode b_D_again 12 = .ok (.getfield 75, 3) := by decide +kernel
theorem d_D_again_15 : decode b_D_again 15 = .ok (.iload_n 1, 1) := by decide +kernel
theorem d_D_again_16 : decode b_D_again 16 = .ok (.invokestatic 150, 3) := by decide +kernel
theorem d_D_again_19 : decode b_D_again 19 = .ok (.ifCond .ne 6, 3) := by decide +kernel
theorem d_D_again_22 : decode b_D_again 22 = .ok (.bipush (-3), 2) := by decide +kernel
theorem d_D_again_24 : decode b_D_again 24 = .ok (.ireturn, 1) := by decide +kernel
theorem d_D_again_25 : decode b_D_again 25 = .ok (.aload_n 0, 1) := by decide +kernel
theorem d_D_again_26 : decode b_D_again 26 = .ok (.getfield 29, 3) := by decide +kernel
theorem d_D_again_29 : decode b_D_again 29 = .ok (.aload_n 0, 1) := by decide +kernel
theorem d_D_again_30 : decode b_D_again 30 = .ok (.getfield 37, 3) := by decide +kernel
theorem d_D_again_33 : decode b_D_again 33 = .ok (.iload_n 1, 1) := by decide +kernel
theorem d_D_again_34 : decode b_D_again 34 = .ok (.aaload, 1) := by decide +kernel
theorem d_D_again_35 : decode b_D_again 35 = .ok (.invokevirtual 157, 3) := by decide +kernel
theorem d_D_again_38 : decode b_D_again 38 = .ok (.aload_n 0, 1) := by decide +kernel
theorem d_D_again_39 : decode b_D_again 39 = .ok (.iconst 0, 1) := by decide +kernel
theorem d_D_again_40 : decode b_D_again 40 = .ok (.putfield 72, 3) := by decide +kernel
theorem d_D_again_43 : decode b_D_again 43 = .ok (.aload_n 0, 1) := by decide +kernel
theorem d_D_again_44 : decode b_D_again 44 = .ok (.getfield 29, 3) := by decide +kernel
theorem d_D_again_47 : decode b_D_again 47 = .ok (.getfield 104, 3) := by decide +kernel
theorem d_D_again_50 : decode b_D_again 50 = .ok (.ireturn, 1) := by decide +kernel
abbrev b_D_isFarm : ByteArray := prog_1_method_33_code
def y_D_isFarm : MethodName := ⟨R_D, "isFarm", "(I)Z"⟩
theorem mc_D_isFarm : Cond.code y_D_isFarm b_D_isFarm 2 (Option.some .boolean) ∈ lw_use := g_use (List.mem_of_getElem? (i := 257) (by decide +kernel)) rfl
theorem d_D_isFarm_0 : decode b_D_isFarm 0 = .ok (.iload_n 1, 1) := by decide +kernel
theorem d_D_isFarm_1 : decode b_D_isFarm 1 = .ok (.ifCond .lt 15, 3) := by decide +kernel
theorem d_D_isFarm_4 : decode b_D_isFarm 4 = .ok (.iload_n 1, 1) := by decide +kernel
theorem d_D_isFarm_5 : decode b_D_isFarm 5 = .ok (.aload_n 0, 1) := by decide +kernel
theorem d_D_isFarm_6 : decode b_D_isFarm 6 = .ok (.getfield 69, 3) := by decide +kernel
theorem d_D_isFarm_9 : decode b_D_isFarm 9 = .ok (.if_icmp .ge 7, 3) := by decide +kernel
theorem d_D_isFarm_12 : decode b_D_isFarm 12 = .ok (.iconst 1, 1) := by decide +kernel
theorem d_D_isFarm_13 : decode b_D_isFarm 13 = .ok (.goto 4, 3) := by decide +kernel
theorem d_D_isFarm_16 : decode b_D_isFarm 16 = .ok (.iconst 0, 1) := by decide +kernel
theorem d_D_isFarm_17 : decode b_D_isFarm 17 = .ok (.ireturn, 1) := by decide +kernel
abbrev b_D_isStorm : ByteArray := prog_1_method_34_code
def y_D_isStorm : MethodName := ⟨R_D, "isStorm", "(I)Z"⟩
theorem mc_D_isStorm : Cond.code y_D_isStorm b_D_isStorm 1 (Option.some .boolean) ∈ lw_use := g_use (List.mem_of_getElem? (i := 272) (by decide +kernel)) rfl
theorem d_D_isStorm_0 : decode b_D_isStorm 0 = .ok (.iload_n 0, 1) := by decide +kernel
theorem d_D_isStorm_1 : decode b_D_isStorm 1 = .ok (.ifCond .lt 13, 3) := by decide +kernel
theorem d_D_isStorm_4 : decode b_D_isStorm 4 = .ok (.iload_n 0, 1) := by decide +kernel
theorem d_D_isStorm_5 : decode b_D_isStorm 5 = .ok (.bipush 20, 2) := by decide +kernel
theorem d_D_isStorm_7 : decode b_D_isStorm 7 = .ok (.if_icmp .gt 7, 3) := by decide +kernel
theorem d_D_isStorm_10 : decode b_D_isStorm 10 = .ok (.iconst 1, 1) := by decide +kernel
theorem d_D_isStorm_11 : decode b_D_isStorm 11 = .ok (.goto 4, 3) := by decide +kernel
theorem d_D_isStorm_14 : decode b_D_isStorm 14 = .ok (.iconst 0, 1) := by decide +kernel
theorem d_D_isStorm_15 : decode b_D_isStorm 15 = .ok (.ireturn, 1) := by decide +kernel
abbrev b_D_bit : ByteArray := prog_1_method_35_code
def y_D_bit : MethodName := ⟨R_D, "bit", "(I)I"⟩
theorem mc_D_bit : Cond.code y_D_bit b_D_bit 1 (Option.some .int) ∈ lw_use := g_use (List.mem_of_getElem? (i := 217) (by decide +kernel)) rfl
theorem d_D_bit_0 : decode b_D_bit 0 = .ok (.iconst 1, 1) := by decide +kernel
theorem d_D_bit_1 : decode b_D_bit 1 = .ok (.iload_n 0, 1) := by decide +kernel
theorem d_D_bit_2 : decode b_D_bit 2 = .ok (.ishl, 1) := by decide +kernel
theorem d_D_bit_3 : decode b_D_bit 3 = .ok (.ireturn, 1) := by decide +kernel
abbrev b_D_has : ByteArray := prog_1_method_36_code
def y_D_has : MethodName := ⟨R_D, "has", "(II)Z"⟩
theorem mc_D_has : Cond.code y_D_has b_D_has 2 (Option.some .boolean) ∈ lw_use := g_use (List.mem_of_getElem? (i := 214) (by decide +kernel)) rfl
theorem d_D_has_0 : decode b_D_has 0 = .ok (.iload_n 0, 1) := by decide +kernel
theorem d_D_has_1 : decode b_D_has 1 = .ok (.iload_n 1, 1) := by decide +kernel
theorem d_D_has_2 : decode b_D_has 2 = .ok (.ishr, 1) := by decide +kernel
theorem d_D_has_3 : decode b_D_has 3 = .ok (.iconst 1, 1) := by decide +kernel
theorem d_D_has_4 : decode b_D_has 4 = .ok (.iand, 1) := by decide +kernel
theorem d_D_has_5 : decode b_D_has 5 = .ok (.ifCond .eq 7, 3) := by decide +kernel
theorem d_D_has_8 : decode b_D_has 8 = .ok (.iconst 1, 1) := by decide +kernel
theorem d_D_has_9 : decode b_D_has 9 = .ok (.goto 4, 3) := by decide +kernel
theorem d_D_has_12 : decode b_D_has 12 = .ok (.iconst 0, 1) := by decide +kernel
theorem d_D_has_13 : decode b_D_has 13 = .ok (.ireturn, 1) := by decide +kernel
abbrev b_D_everyFarm : ByteArray := prog_1_method_37_code
def y_D_everyFarm : MethodName := ⟨R_D, "everyFarm", "()I"⟩
theorem mc_D_everyFarm : Cond.code y_D_everyFarm b_D_everyFarm 1 (Option.some .int) ∈ lw_use := g_use (List.mem_of_getElem? (i := 244) (by decide +kernel)) rfl
theorem d_D_everyFarm_0 : decode b_D_everyFarm 0 = .ok (.iconst 1, 1) := by decide +kernel
theorem d_D_everyFarm_1 : decode b_D_everyFarm 1 = .ok (.aload_n 0, 1) := by decide +kernel
theorem d_D_everyFarm_2 : decode b_D_everyFarm 2 = .ok (.getfield 69, 3) := by decide +kernel
theorem d_D_everyFarm_5 : decode b_D_everyFarm 5 = .ok (.ishl, 1) := by decide +kernel
theorem d_D_everyFarm_6 : decode b_D_everyFarm 6 = .ok (.iconst 1, 1) := by decide +kernel
theorem d_D_everyFarm_7 : decode b_D_everyFarm 7 = .ok (.isub, 1) := by decide +kernel
theorem d_D_everyFarm_8 : decode b_D_everyFarm 8 = .ok (.ireturn, 1) := by decide +kernel
abbrev b_D_copyRow : ByteArray := prog_1_method_38_code
def y_D_copyRow : MethodName := ⟨R_D, "copyRow", "([I[I)V"⟩
theorem mc_D_copyRow : Cond.code y_D_copyRow b_D_copyRow 3 none ∈ lw_use := g_use (List.mem_of_getElem? (i := 287) (by decide +kernel)) rfl
theorem d_D_copyRow_0 : decode b_D_copyRow 0 = .ok (.iconst 0, 1) := by decide +kernel
theorem d_D_copyRow_1 : decode b_D_copyRow 1 = .ok (.istore_n 2, 1) := by decide +kernel
theorem d_D_copyRow_2 : decode b_D_copyRow 2 = .ok (.iload_n 2, 1) := by decide +kernel
theorem d_D_copyRow_3 : decode b_D_copyRow 3 = .ok (.aload_n 0, 1) := by decide +kernel
theorem d_D_copyRow_4 : decode b_D_copyRow 4 = .ok (.arraylength, 1) := by decide +kernel
theorem d_D_copyRow_5 : decode b_D_copyRow 5 = .ok (.if_icmp .ge 21, 3) := by decide +kernel
theorem d_D_copyRow_8 : decode b_D_copyRow 8 = .ok (.iload_n 2, 1) := by decide +kernel
theorem d_D_copyRow_9 : decode b_D_copyRow 9 = .ok (.aload_n 1, 1) := by decide +kernel
theorem d_D_copyRow_10 : decode b_D_copyRow 10 = .ok (.arraylength, 1) := by decide +kernel
theorem d_D_copyRow_11 : decode b_D_copyRow 11 = .ok (.if_icmp .ge 15, 3) := by decide +kernel
theorem d_D_copyRow_14 : decode b_D_copyRow 14 = .ok (.aload_n 1, 1) := by decide +kernel
theorem d_D_copyRow_15 : decode b_D_copyRow 15 = .ok (.iload_n 2, 1) := by decide +kernel
theorem d_D_copyRow_16 : decode b_D_copyRow 16 = .ok (.aload_n 0, 1) := by decide +kernel
theorem d_D_copyRow_17 : decode b_D_copyRow 17 = .ok (.iload_n 2, 1) := by decide +kernel
theorem d_D_copyRow_18 : decode b_D_copyRow 18 = .ok (.iaload, 1) := by decide +kernel
theorem d_D_copyRow_19 : decode b_D_copyRow 19 = .ok (.iastore, 1) := by decide +kernel
theorem d_D_copyRow_20 : decode b_D_copyRow 20 = .ok (.iinc 2 1, 3) := by decide +kernel
theorem d_D_copyRow_23 : decode b_D_copyRow 23 = .ok (.goto (-21), 3) := by decide +kernel
theorem d_D_copyRow_26 : decode b_D_copyRow 26 = .ok (.return_, 1) := by decide +kernel
abbrev b_D_settleFarm : ByteArray := prog_1_method_39_code
def y_D_settleFarm : MethodName := ⟨R_D, "settleFarm", "(I)V"⟩
theorem mc_D_settleFarm : Cond.code y_D_settleFarm b_D_settleFarm 2 none ∈ lw_use := g_use (List.mem_of_getElem? (i := 233) (by decide +kernel)) rfl
theorem d_D_settleFarm_0 : decode b_D_settleFarm 0 = .ok (.aload_n 0, 1) := by decide +kernel
theorem d_D_settleFarm_1 : decode b_D_settleFarm 1 = .ok (.getfield 69, 3) := by decide +kernel
theorem d_D_settleFarm_4 : decode b_D_settleFarm 4 = .ok (.bipush 6, 2) := by decide +kernel
theorem d_D_settleFarm_6 : decode b_D_settleFarm 6 = .ok (.if_icmp .lt 4, 3) := by decide +kernel
theorem d_D_settleFarm_9 : decode b_D_settleFarm 9 = .ok (.return_, 1) := by decide +kernel
theorem d_D_settleFarm_10 : decode b_D_settleFarm 10 = .ok (.aload_n 0, 1) := by decide +kernel
theorem d_D_settleFarm_11 : decode b_D_settleFarm 11 = .ok (.getfield 29, 3) := by decide +kernel
theorem d_D_settleFarm_14 : decode b_D_settleFarm 14 = .ok (.getfield 117, 3) := by decide +kernel
theorem d_D_settleFarm_17 : decode b_D_settleFarm 17 = .ok (.aload_n 0, 1) := by decide +kernel
theorem d_D_settleFarm_18 : decode b_D_settleFarm 18 = .ok (.getfield 69, 3) := by decide +kernel
theorem d_D_settleFarm_21 : decode b_D_settleFarm 21 = .ok (.aload_n 0, 1) := by decide +kernel
theorem d_D_settleFarm_22 : decode b_D_settleFarm 22 = .ok (.getfield 10, 3) := by decide +kernel
theorem d_D_settleFarm_25 : decode b_D_settleFarm 25 = .ok (.iload_n 1, 1) := by decide +kernel
theorem d_D_settleFarm_26 : decode b_D_settleFarm 26 = .ok (.invokevirtual 95, 3) := by decide +kernel
theorem d_D_settleFarm_29 : decode b_D_settleFarm 29 = .ok (.iastore, 1) := by decide +kernel
theorem d_D_settleFarm_30 : decode b_D_settleFarm 30 = .ok (.aload_n 0, 1) := by decide +kernel
theorem d_D_settleFarm_31 : decode b_D_settleFarm 31 = .ok (.getfield 16, 3) := by decide +kernel
theorem d_D_settleFarm_34 : decode b_D_settleFarm 34 = .ok (.aload_n 0, 1) := by decide +kernel
theorem d_D_settleFarm_35 : decode b_D_settleFarm 35 = .ok (.getfield 69, 3) := by decide +kernel
theorem d_D_settleFarm_38 : decode b_D_settleFarm 38 = .ok (.aload_n 0, 1) := by decide +kernel
theorem d_D_settleFarm_39 : decode b_D_settleFarm 39 = .ok (.getfield 10, 3) := by decide +kernel
theorem d_D_settleFarm_42 : decode b_D_settleFarm 42 = .ok (.iload_n 1, 1) := by decide +kernel
theorem d_D_settleFarm_43 : decode b_D_settleFarm 43 = .ok (.iconst 1, 1) := by decide +kernel
theorem d_D_settleFarm_44 : decode b_D_settleFarm 44 = .ok (.iadd, 1) := by decide +kernel
theorem d_D_settleFarm_45 : decode b_D_settleFarm 45 = .ok (.invokevirtual 95, 3) := by decide +kernel
theorem d_D_settleFarm_48 : decode b_D_settleFarm 48 = .ok (.iastore, 1) := by decide +kernel
theorem d_D_settleFarm_49 : decode b_D_settleFarm 49 = .ok (.aload_n 0, 1) := by decide +kernel
theorem d_D_settleFarm_50 : decode b_D_settleFarm 50 = .ok (.getfield 29, 3) := by decide +kernel
theorem d_D_settleFarm_53 : decode b_D_settleFarm 53 = .ok (.getfield 120, 3) := by decide +kernel
theorem d_D_settleFarm_56 : decode b_D_settleFarm 56 = .ok (.aload_n 0, 1) := by decide +kernel
theorem d_D_settleFarm_57 : decode b_D_settleFarm 57 = .ok (.getfield 69, 3) := by decide +kernel
theorem d_D_settleFarm_60 : decode b_D_settleFarm 60 = .ok (.aload_n 0, 1) := by decide +kernel
theorem d_D_settleFarm_61 : decode b_D_settleFarm 61 = .ok (.getfield 10, 3) := by decide +kernel
theorem d_D_settleFarm_64 : decode b_D_settleFarm 64 = .ok (.iload_n 1, 1) := by decide +kernel
theorem d_D_settleFarm_65 : decode b_D_settleFarm 65 = .ok (.iconst 2, 1) := by decide +kernel
theorem d_D_settleFarm_66 : decode b_D_settleFarm 66 = .ok (.iadd, 1) := by decide +kernel
theorem d_D_settleFarm_67 : decode b_D_settleFarm 67 = .ok (.invokevirtual 95, 3) := by decide +kernel
theorem d_D_settleFarm_70 : decode b_D_settleFarm 70 = .ok (.iastore, 1) := by decide +kernel
theorem d_D_settleFarm_71 : decode b_D_settleFarm 71 = .ok (.aload_n 0, 1) := by decide +kernel
theorem d_D_settleFarm_72 : decode b_D_settleFarm 72 = .ok (.getfield 20, 3) := by decide +kernel
theorem d_D_settleFarm_75 : decode b_D_settleFarm 75 = .ok (.aload_n 0, 1) := by decide +kernel
theorem d_D_settleFarm_76 : decode b_D_settleFarm 76 = .ok (.getfield 69, 3) := by decide +kernel
theorem d_D_settleFarm_79 : decode b_D_settleFarm 79 = .ok (.aload_n 0, 1) := by decide +kernel
theorem d_D_settleFarm_80 : decode b_D_settleFarm 80 = .ok (.getfield 10, 3) := by decide +kernel
theorem d_D_settleFarm_83 : decode b_D_settleFarm 83 = .ok (.iload_n 1, 1) := by decide +kernel
theorem d_D_settleFarm_84 : decode b_D_settleFarm 84 = .ok (.iconst 3, 1) := by decide +kernel
theorem d_D_settleFarm_85 : decode b_D_settleFarm 85 = .ok (.iadd, 1) := by decide +kernel
theorem d_D_settleFarm_86 : decode b_D_settleFarm 86 = .ok (.invokevirtual 95, 3) := by decide +kernel
theorem d_D_settleFarm_89 : decode b_D_settleFarm 89 = .ok (.iastore, 1) := by decide +kernel
theorem d_D_settleFarm_90 : decode b_D_settleFarm 90 = .ok (.aload_n 0, 1) := by decide +kernel
theorem d_D_settleFarm_91 : decode b_D_settleFarm 91 = .ok (.getfield 23, 3) := by decide +kernel
theorem d_D_settleFarm_94 : decode b_D_settleFarm 94 = .ok (.aload_n 0, 1) := by decide +kernel
theorem d_D_settleFarm_95 : decode b_D_settleFarm 95 = .ok (.getfield 69, 3) := by decide +kernel
theorem d_D_settleFarm_98 : decode b_D_settleFarm 98 = .ok (.aload_n 0, 1) := by decide +kernel
theorem d_D_settleFarm_99 : decode b_D_settleFarm 99 = .ok (.getfield 10, 3) := by decide +kernel
theorem d_D_settleFarm_102 : decode b_D_settleFarm 102 = .ok (.iload_n 1, 1) := by decide +kernel
theorem d_D_settleFarm_103 : decode b_D_settleFarm 103 = .ok (.iconst 4, 1) := by decide +kernel
theorem d_D_settleFarm_104 : decode b_D_settleFarm 104 = .ok (.iadd, 1) := by decide +kernel
theorem d_D_settleFarm_105 : decode b_D_settleFarm 105 = .ok (.invokevirtual 95, 3) := by decide +kernel
theorem d_D_settleFarm_108 : decode b_D_settleFarm 108 = .ok (.iastore, 1) := by decide +kernel
theorem d_D_settleFarm_109 : decode b_D_settleFarm 109 = .ok (.aload_n 0, 1) := by decide +kernel
theorem d_D_settleFarm_110 : decode b_D_settleFarm 110 = .ok (.getfield 29, 3) := by decide +kernel
theorem d_D_settleFarm_113 : decode b_D_settleFarm 113 = .ok (.getfield 123, 3) := by decide +kernel
theorem d_D_settleFarm_116 : decode b_D_settleFarm 116 = .ok (.aload_n 0, 1) := by decide +kernel
theorem d_D_settleFarm_117 : decode b_D_settleFarm 117 = .ok (.getfield 69, 3) := by decide +kernel
theorem d_D_settleFarm_120 : decode b_D_settleFarm 120 = .ok (.aload_n 0, 1) := by decide +kernel
theorem d_D_settleFarm_121 : decode b_D_settleFarm 121 = .ok (.getfield 69, 3) := by decide +kernel
theorem d_D_settleFarm_124 : decode b_D_settleFarm 124 = .ok (.iastore, 1) := by decide +kernel
theorem d_D_settleFarm_125 : decode b_D_settleFarm 125 = .ok (.aload_n 0, 1) := by decide +kernel
theorem d_D_settleFarm_126 : decode b_D_settleFarm 126 = .ok (.dup, 1) := by decide +kernel
theorem d_D_settleFarm_127 : decode b_D_settleFarm 127 = .ok (.getfield 69, 3) := by decide +kernel
theorem d_D_settleFarm_130 : decode b_D_settleFarm 130 = .ok (.iconst 1, 1) := by decide +kernel
theorem d_D_settleFarm_131 : decode b_D_settleFarm 131 = .ok (.iadd, 1) := by decide +kernel
theorem d_D_settleFarm_132 : decode b_D_settleFarm 132 = .ok (.putfield 69, 3) := by decide +kernel
theorem d_D_settleFarm_135 : decode b_D_settleFarm 135 = .ok (.return_, 1) := by decide +kernel
abbrev b_D_actRow : ByteArray := prog_1_method_40_code
def y_D_actRow : MethodName := ⟨R_D, "actRow", "(I)I"⟩
theorem mc_D_actRow : Cond.code y_D_actRow b_D_actRow 2 (Option.some .int) ∈ lw_use := g_use (List.mem_of_getElem? (i := 280) (by decide +kernel)) rfl
theorem d_D_actRow_0 : decode b_D_actRow 0 = .ok (.aload_n 0, 1) := by decide +kernel
theorem d_D_actRow_1 : decode b_D_actRow 1 = .ok (.getfield 224, 3) := by decide +kernel
theorem d_D_actRow_4 : decode b_D_actRow 4 = .ok (.iload_n 1, 1) := by decide +kernel
theorem d_D_actRow_5 : decode b_D_actRow 5 = .ok (.iadd, 1) := by decide +kernel
theorem d_D_actRow_6 : decode b_D_actRow 6 = .ok (.bipush 14, 2) := by decide +kernel
theorem d_D_actRow_8 : decode b_D_actRow 8 = .ok (.irem, 1) := by decide +kernel
theorem d_D_actRow_9 : decode b_D_actRow 9 = .ok (.ireturn, 1) := by decide +kernel
abbrev b_D_remember : ByteArray := prog_1_method_41_code
def y_D_remember : MethodName := ⟨R_D, "remember", "()V"⟩
theorem mc_D_remember : Cond.code y_D_remember b_D_remember 1 none ∈ lw_use := g_use (List.mem_of_getElem? (i := 276) (by decide +kernel)) rfl
theorem d_D_remember_0 : decode b_D_remember 0 = .ok (.aload_n 0, 1) := by decide +kernel
theorem d_D_remember_1 : decode b_D_remember 1 = .ok (.getfield 72, 3) := by decide +kernel
theorem d_D_remember_4 : decode b_D_remember 4 = .ok (.bipush 14, 2) := by decide +kernel
theorem d_D_remember_6 : decode b_D_remember 6 = .ok (.if_icmp .ne 22, 3) := by decide +kernel
theorem d_D_remember_9 : decode b_D_remember 9 = .ok (.aload_n 0, 1) := by decide +kernel
theorem d_D_remember_10 : decode b_D_remember 10 = .ok (.aload_n 0, 1) := by decide +kernel
theorem d_D_remember_11 : decode b_D_remember 11 = .ok (.iconst 1, 1) := by decide +kernel
theorem d_D_remember_12 : decode b_D_remember 12 = .ok (.invokevirtual 154, 3) := by decide +kernel
theorem d_D_remember_15 : decode b_D_remember 15 = .ok (.putfield 224, 3) := by decide +kernel
theorem d_D_remember_18 : decode b_D_remember 18 = .ok (.aload_n 0, 1) := by decide +kernel
theorem d_D_remember_19 : decode b_D_remember 19 = .ok (.dup, 1) := by decide +kernel
theorem d_D_remember_20 : decode b_D_remember 20 = .ok (.getfield 72, 3) := by decide +kernel
theorem d_D_remember_23 : decode b_D_remember 23 = .ok (.iconst 1, 1) := by decide +kernel
theorem d_D_remember_24 : decode b_D_remember 24 = .ok (.isub, 1) := by decide +kernel
theorem d_D_remember_25 : decode b_D_remember 25 = .ok (.putfield 72, 3) := by decide +kernel
theorem d_D_remember_28 : decode b_D_remember 28 = .ok (.aload_n 0, 1) := by decide +kernel
theorem d_D_remember_29 : decode b_D_remember 29 = .ok (.getfield 33, 3) := by decide +kernel
theorem d_D_remember_32 : decode b_D_remember 32 = .ok (.aload_n 0, 1) := by decide +kernel
theorem d_D_remember_33 : decode b_D_remember 33 = .ok (.aload_n 0, 1) := by decide +kernel
theorem d_D_remember_34 : decode b_D_remember 34 = .ok (.getfield 72, 3) := by decide +kernel
theorem d_D_remember_37 : decode b_D_remember 37 = .ok (.invokevirtual 154, 3) := by decide +kernel
theorem d_D_remember_40 : decode b_D_remember 40 = .ok (.aaload, 1) := by decide +kernel
theorem d_D_remember_41 : decode b_D_remember 41 = .ok (.aload_n 0, 1) := by decide +kernel
theorem d_D_remember_42 : decode b_D_remember 42 = .ok (.getfield 29, 3) := by decide +kernel
theorem d_D_remember_45 : decode b_D_remember 45 = .ok (.invokevirtual 157, 3) := by decide +kernel
theorem d_D_remember_48 : decode b_D_remember 48 = .ok (.aload_n 0, 1) := by decide +kernel
theorem d_D_remember_49 : decode b_D_remember 49 = .ok (.dup, 1) := by decide +kernel
theorem d_D_remember_50 : decode b_D_remember 50 = .ok (.getfield 72, 3) := by decide +kernel
theorem d_D_remember_53 : decode b_D_remember 53 = .ok (.iconst 1, 1) := by decide +kernel
theorem d_D_remember_54 : decode b_D_remember 54 = .ok (.iadd, 1) := by decide +kernel
theorem d_D_remember_55 : decode b_D_remember 55 = .ok (.putfield 72, 3) := by decide +kernel
theorem d_D_remember_58 : decode b_D_remember 58 = .ok (.return_, 1) := by decide +kernel
abbrev b_D_strengthAt : ByteArray := prog_1_method_42_code
def y_D_strengthAt : MethodName := ⟨R_D, "strengthAt", "(II)I"⟩
theorem mc_D_strengthAt : Cond.code y_D_strengthAt b_D_strengthAt 3 (Option.some .int) ∈ lw_use := g_use (List.mem_of_getElem? (i := 261) (by decide +kernel)) rfl
theorem d_D_strengthAt_0 : decode b_D_strengthAt 0 = .ok (.aload_n 0, 1) := by decide +kernel
theorem d_D_strengthAt_1 : decode b_D_strengthAt 1 = .ok (.getfield 23, 3) := by decide +kernel
theorem d_D_strengthAt_4 : decode b_D_strengthAt 4 = .ok (.iload_n 1, 1) := by decide +kernel
theorem d_D_strengthAt_5 : decode b_D_strengthAt 5 = .ok (.iaload, 1) := by decide +kernel
theorem d_D_strengthAt_6 : decode b_D_strengthAt 6 = .ok (.tableswitch 50 1 3 #[26, 28, 39], 26) := by decide +kernel
theorem d_D_strengthAt_32 : decode b_D_strengthAt 32 = .ok (.iload_n 2, 1) := by decide +kernel
theorem d_D_strengthAt_33 : decode b_D_strengthAt 33 = .ok (.ireturn, 1) := by decide +kernel
theorem d_D_strengthAt_34 : decode b_D_strengthAt 34 = .ok (.iload_n 2, 1) := by decide +kernel
theorem d_D_strengthAt_35 : decode b_D_strengthAt 35 = .ok (.iconst 2, 1) := by decide +kernel
theorem d_D_strengthAt_36 : decode b_D_strengthAt 36 = .ok (.aload_n 0, 1) := by decide +kernel
theorem d_D_strengthAt_37 : decode b_D_strengthAt 37 = .ok (.getfield 16, 3) := by decide +kernel
theorem d_D_strengthAt_40 : decode b_D_strengthAt 40 = .ok (.iload_n 1, 1) := by decide +kernel
theorem d_D_strengthAt_41 : decode b_D_strengthAt 41 = .ok (.iaload, 1) := by decide +kernel
theorem d_D_strengthAt_42 : decode b_D_strengthAt 42 = .ok (.imul, 1) := by decide +kernel
theorem d_D_strengthAt_43 : decode b_D_strengthAt 43 = .ok (.iadd, 1) := by decide +kernel
theorem d_D_strengthAt_44 : decode b_D_strengthAt 44 = .ok (.ireturn, 1) := by decide +kernel
theorem d_D_strengthAt_45 : decode b_D_strengthAt 45 = .ok (.iload_n 2, 1) := by decide +kernel
theorem d_D_strengthAt_46 : decode b_D_strengthAt 46 = .ok (.aload_n 0, 1) := by decide +kernel
theorem d_D_strengthAt_47 : decode b_D_strengthAt 47 = .ok (.getfield 16, 3) := by decide +kernel
theorem d_D_strengthAt_50 : decode b_D_strengthAt 50 = .ok (.iload_n 1, 1) := by decide +kernel
theorem d_D_strengthAt_51 : decode b_D_strengthAt 51 = .ok (.iaload, 1) := by decide +kernel
theorem d_D_strengthAt_52 : decode b_D_strengthAt 52 = .ok (.iadd, 1) := by decide +kernel
theorem d_D_strengthAt_53 : decode b_D_strengthAt 53 = .ok (.iconst 2, 1) := by decide +kernel
theorem d_D_strengthAt_54 : decode b_D_strengthAt 54 = .ok (.iadd, 1) := by decide +kernel
theorem d_D_strengthAt_55 : decode b_D_strengthAt 55 = .ok (.ireturn, 1) := by decide +kernel
theorem d_D_strengthAt_56 : decode b_D_strengthAt 56 = .ok (.iload_n 2, 1) := by decide +kernel
theorem d_D_strengthAt_57 : decode b_D_strengthAt 57 = .ok (.aload_n 0, 1) := by decide +kernel
theorem d_D_strengthAt_58 : decode b_D_strengthAt 58 = .ok (.getfield 16, 3) := by decide +kernel
theorem d_D_strengthAt_61 : decode b_D_strengthAt 61 = .ok (.iload_n 1, 1) := by decide +kernel
theorem d_D_strengthAt_62 : decode b_D_strengthAt 62 = .ok (.iaload, 1) := by decide +kernel
theorem d_D_strengthAt_63 : decode b_D_strengthAt 63 = .ok (.iadd, 1) := by decide +kernel
theorem d_D_strengthAt_64 : decode b_D_strengthAt 64 = .ok (.ireturn, 1) := by decide +kernel
abbrev b_D_heightBehind : ByteArray := prog_1_method_43_code
def y_D_heightBehind : MethodName := ⟨R_D, "heightBehind", "(III)I"⟩
theorem mc_D_heightBehind : Cond.code y_D_heightBehind b_D_heightBehind 5 (Option.some .int) ∈ lw_use := g_use (List.mem_of_getElem? (i := 295) (by decide +kernel)) rfl
theorem d_D_heightBehind_0 : decode b_D_heightBehind 0 = .ok (.aload_n 0, 1) := by decide +kernel
theorem d_D_heightBehind_1 : decode b_D_heightBehind 1 = .ok (.iload_n 1, 1) := by decide +kernel
theorem d_D_heightBehind_2 : decode b_D_heightBehind 2 = .ok (.iload_n 2, 1) := by decide +kernel
theorem d_D_heightBehind_3 : decode b_D_heightBehind 3 = .ok (.invokevirtual 126, 3) := by decide +kernel
theorem d_D_heightBehind_6 : decode b_D_heightBehind 6 = .ok (.istore 4, 2) := by decide +kernel
theorem d_D_heightBehind_8 : decode b_D_heightBehind 8 = .ok (.iload_n 3, 1) := by decide +kernel
theorem d_D_heightBehind_9 : decode b_D_heightBehind 9 = .ok (.iload 4, 2) := by decide +kernel
theorem d_D_heightBehind_11 : decode b_D_heightBehind 11 = .ok (.if_icmp .le 5, 3) := by decide +kernel
theorem d_D_heightBehind_14 : decode b_D_heightBehind 14 = .ok (.iconst 0, 1) := by decide +kernel
theorem d_D_heightBehind_15 : decode b_D_heightBehind 15 = .ok (.ireturn, 1) := by decide +kernel
theorem d_D_heightBehind_16 : decode b_D_heightBehind 16 = .ok (.iload_n 3, 1) := by decide +kernel
theorem d_D_heightBehind_17 : decode b_D_heightBehind 17 = .ok (.iload 4, 2) := by decide +kernel
theorem d_D_heightBehind_19 : decode b_D_heightBehind 19 = .ok (.if_icmp .ne 13, 3) := by decide +kernel
theorem d_D_heightBehind_22 : decode b_D_heightBehind 22 = .ok (.iload_n 2, 1) := by decide +kernel
theorem d_D_heightBehind_23 : decode b_D_heightBehind 23 = .ok (.iconst 1, 1) := by decide +kernel
theorem d_D_heightBehind_24 : decode b_D_heightBehind 24 = .ok (.isub, 1) := by decide +kernel
theorem d_D_heightBehind_25 : decode b_D_heightBehind 25 = .ok (.iconst 0, 1) := by decide +kernel
theorem d_D_heightBehind_26 : decode b_D_heightBehind 26 = .ok (.invokestatic 227, 3) := by decide +kernel
theorem d_D_heightBehind_29 : decode b_D_heightBehind 29 = .ok (.goto 4, 3) := by decide +kernel
theorem d_D_heightBehind_32 : decode b_D_heightBehind 32 = .ok (.iload_n 2, 1) := by decide +kernel
theorem d_D_heightBehind_33 : decode b_D_heightBehind 33 = .ok (.ireturn, 1) := by decide +kernel
abbrev b_D_brokenBy : ByteArray := prog_1_method_44_code
def y_D_brokenBy : MethodName := ⟨R_D, "brokenBy", "(I)I"⟩
theorem mc_D_brokenBy : Cond.code y_D_brokenBy b_D_brokenBy 4 (Option.some .int) ∈ lw_use := g_use (List.mem_of_getElem? (i := 338) (by decide +kernel)) rfl
theorem d_D_brokenBy_0 : decode b_D_brokenBy 0 = .ok (.iconst 0, 1) := by decide +kernel
theorem d_D_brokenBy_1 : decode b_D_brokenBy 1 = .ok (.istore_n 2, 1) := by decide +kernel
theorem d_D_brokenBy_2 : decode b_D_brokenBy 2 = .ok (.iconst 0, 1) := by decide +kernel
theorem d_D_brokenBy_3 : decode b_D_brokenBy 3 = .ok (.istore_n 3, 1) := by decide +kernel
theorem d_D_brokenBy_4 : decode b_D_brokenBy 4 = .ok (.iload_n 3, 1) := by decide +kernel
theorem d_D_brokenBy_5 : decode b_D_brokenBy 5 = .ok (.aload_n 0, 1) := by decide +kernel
theorem d_D_brokenBy_6 : decode b_D_brokenBy 6 = .ok (.getfield 69, 3) := by decide +kernel
theorem d_D_brokenBy_9 : decode b_D_brokenBy 9 = .ok (.if_icmp .ge 34, 3) := by decide +kernel
theorem d_D_brokenBy_12 : decode b_D_brokenBy 12 = .ok (.iload_n 1, 1) := by decide +kernel
theorem d_D_brokenBy_13 : decode b_D_brokenBy 13 = .ok (.aload_n 0, 1) := by decide +kernel
theorem d_D_brokenBy_14 : decode b_D_brokenBy 14 = .ok (.iload_n 3, 1) := by decide +kernel
theorem d_D_brokenBy_15 : decode b_D_brokenBy 15 = .ok (.aload_n 0, 1) := by decide +kernel
theorem d_D_brokenBy_16 : decode b_D_brokenBy 16 = .ok (.getfield 29, 3) := by decide +kernel
theorem d_D_brokenBy_19 : decode b_D_brokenBy 19 = .ok (.getfield 117, 3) := by decide +kernel
theorem d_D_brokenBy_22 : decode b_D_brokenBy 22 = .ok (.iload_n 3, 1) := by decide +kernel
theorem d_D_brokenBy_23 : decode b_D_brokenBy 23 = .ok (.iaload, 1) := by decide +kernel
theorem d_D_brokenBy_24 : decode b_D_brokenBy 24 = .ok (.invokevirtual 126, 3) := by decide +kernel
theorem d_D_brokenBy_27 : decode b_D_brokenBy 27 = .ok (.if_icmp .le 10, 3) := by decide +kernel
theorem d_D_brokenBy_30 : decode b_D_brokenBy 30 = .ok (.iload_n 2, 1) := by decide +kernel
theorem d_D_brokenBy_31 : decode b_D_brokenBy 31 = .ok (.iload_n 3, 1) := by decide +kernel
theorem d_D_brokenBy_32 : decode b_D_brokenBy 32 = .ok (.invokestatic 98, 3) := by decide +kernel
theorem d_D_brokenBy_35 : decode b_D_brokenBy 35 = .ok (.ior, 1) := by decide +kernel
theorem d_D_brokenBy_36 : decode b_D_brokenBy 36 = .ok (.istore_n 2, 1) := by decide +kernel
theorem d_D_brokenBy_37 : decode b_D_brokenBy 37 = .ok (.iinc 3 1, 3) := by decide +kernel
theorem d_D_brokenBy_40 : decode b_D_brokenBy 40 = .ok (.goto (-36), 3) := by decide +kernel
theorem d_D_brokenBy_43 : decode b_D_brokenBy 43 = .ok (.iload_n 2, 1) := by decide +kernel
theorem d_D_brokenBy_44 : decode b_D_brokenBy 44 = .ok (.ireturn, 1) := by decide +kernel
abbrev b_D_strike : ByteArray := prog_1_method_45_code
def y_D_strike : MethodName := ⟨R_D, "strike", "([II)I"⟩
theorem mc_D_strike : Cond.code y_D_strike b_D_strike 5 (Option.some .int) ∈ lw_use := g_use (List.mem_of_getElem? (i := 291) (by decide +kernel)) rfl
theorem d_D_strike_0 : decode b_D_strike 0 = .ok (.iconst 0, 1) := by decide +kernel
theorem d_D_strike_1 : decode b_D_strike 1 = .ok (.istore_n 3, 1) := by decide +kernel
theorem d_D_strike_2 : decode b_D_strike 2 = .ok (.iconst 0, 1) := by decide +kernel
theorem d_D_strike_3 : decode b_D_strike 3 = .ok (.istore 4, 2) := by decide +kernel
theorem d_D_strike_5 : decode b_D_strike 5 = .ok (.iload 4, 2) := by decide +kernel
theorem d_D_strike_7 : decode b_D_strike 7 = .ok (.aload_n 0, 1) := by decide +kernel
theorem d_D_strike_8 : decode b_D_strike 8 = .ok (.getfield 69, 3) := by decide +kernel
theorem d_D_strike_11 : decode b_D_strike 11 = .ok (.if_icmp .ge 53, 3) := by decide +kernel
theorem d_D_strike_14 : decode b_D_strike 14 = .ok (.iload 4, 2) := by decide +kernel
theorem d_D_strike_16 : decode b_D_strike 16 = .ok (.aload_n 1, 1) := by decide +kernel
theorem d_D_strike_17 : decode b_D_strike 17 = .ok (.arraylength, 1) := by decide +kernel
theorem d_D_strike_18 : decode b_D_strike 18 = .ok (.if_icmp .ge 46, 3) := by decide +kernel
theorem d_D_strike_21 : decode b_D_strike 21 = .ok (.iload_n 2, 1) := by decide +kernel
theorem d_D_strike_22 : decode b_D_strike 22 = .ok (.aload_n 0, 1) := by decide +kernel
theorem d_D_strike_23 : decode b_D_strike 23 = .ok (.iload 4, 2) := by decide +kernel
theorem d_D_strike_25 : decode b_D_strike 25 = .ok (.aload_n 1, 1) := by decide +kernel
theorem d_D_strike_26 : decode b_D_strike 26 = .ok (.iload 4, 2) := by decide +kernel
theorem d_D_strike_28 : decode b_D_strike 28 = .ok (.iaload, 1) := by decide +kernel
theorem d_D_strike_29 : decode b_D_strike 29 = .ok (.invokevirtual 126, 3) := by decide +kernel
theorem d_D_strike_32 : decode b_D_strike 32 = .ok (.if_icmp .le 11, 3) := by decide +kernel
theorem d_D_strike_35 : decode b_D_strike 35 = .ok (.iload_n 3, 1) := by decide +kernel
theorem d_D_strike_36 : decode b_D_strike 36 = .ok (.iload 4, 2) := by decide +kernel
theorem d_D_strike_38 : decode b_D_strike 38 = .ok (.invokestatic 98, 3) := by decide +kernel
theorem d_D_strike_41 : decode b_D_strike 41 = .ok (.ior, 1) := by decide +kernel
theorem d_D_strike_42 : decode b_D_strike 42 = .ok (.istore_n 3, 1) := by decide +kernel
theorem d_D_strike_43 : decode b_D_strike 43 = .ok (.aload_n 1, 1) := by decide +kernel
theorem d_D_strike_44 : decode b_D_strike 44 = .ok (.iload 4, 2) := by decide +kernel
theorem d_D_strike_46 : decode b_D_strike 46 = .ok (.aload_n 0, 1) := by decide +kernel
theorem d_D_strike_47 : decode b_D_strike 47 = .ok (.iload 4, 2) := by decide +kernel
theorem d_D_strike_49 : decode b_D_strike 49 = .ok (.aload_n 1, 1) := by decide +kernel
theorem d_D_strike_50 : decode b_D_strike 50 = .ok (.iload 4, 2) := by decide +kernel
theorem d_D_strike_52 : decode b_D_strike 52 = .ok (.iaload, 1) := by decide +kernel
theorem d_D_strike_53 : decode b_D_strike 53 = .ok (.iload_n 2, 1) := by decide +kernel
theorem d_D_strike_54 : decode b_D_strike 54 = .ok (.invokevirtual 232, 3) := by decide +kernel
theorem d_D_strike_57 : decode b_D_strike 57 = .ok (.iastore, 1) := by decide +kernel
theorem d_D_strike_58 : decode b_D_strike 58 = .ok (.iinc 4 1, 3) := by decide +kernel
theorem d_D_strike_61 : decode b_D_strike 61 = .ok (.goto (-56), 3) := by decide +kernel
theorem d_D_strike_64 : decode b_D_strike 64 = .ok (.iload_n 3, 1) := by decide +kernel
theorem d_D_strike_65 : decode b_D_strike 65 = .ok (.ireturn, 1) := by decide +kernel
abbrev b_D_wetBy : ByteArray := prog_1_method_46_code
def y_D_wetBy : MethodName := ⟨R_D, "wetBy", "(I)I"⟩
theorem mc_D_wetBy : Cond.code y_D_wetBy b_D_wetBy 4 (Option.some .int) ∈ lw_use := g_use (List.mem_of_getElem? (i := 302) (by decide +kernel)) rfl
theorem d_D_wetBy_0 : decode b_D_wetBy 0 = .ok (.iload_n 1, 1) := by decide +kernel
theorem d_D_wetBy_1 : decode b_D_wetBy 1 = .ok (.istore_n 2, 1) := by decide +kernel
theorem d_D_wetBy_2 : decode b_D_wetBy 2 = .ok (.iconst 0, 1) := by decide +kernel
theorem d_D_wetBy_3 : decode b_D_wetBy 3 = .ok (.istore_n 3, 1) := by decide +kernel
theorem d_D_wetBy_4 : decode b_D_wetBy 4 = .ok (.iload_n 3, 1) := by decide +kernel
theorem d_D_wetBy_5 : decode b_D_wetBy 5 = .ok (.aload_n 0, 1) := by decide +kernel
theorem d_D_wetBy_6 : decode b_D_wetBy 6 = .ok (.getfield 69, 3) := by decide +kernel
theorem d_D_wetBy_9 : decode b_D_wetBy 9 = .ok (.iconst 1, 1) := by decide +kernel
theorem d_D_wetBy_10 : decode b_D_wetBy 10 = .ok (.isub, 1) := by decide +kernel
theorem d_D_wetBy_11 : decode b_D_wetBy 11 = .ok (.if_icmp .ge 40, 3) := by decide +kernel
theorem d_D_wetBy_14 : decode b_D_wetBy 14 = .ok (.iload_n 2, 1) := by decide +kernel
theorem d_D_wetBy_15 : decode b_D_wetBy 15 = .ok (.iload_n 3, 1) := by decide +kernel
theorem d_D_wetBy_16 : decode b_D_wetBy 16 = .ok (.invokestatic 150, 3) := by decide +kernel
theorem d_D_wetBy_19 : decode b_D_wetBy 19 = .ok (.ifCond .eq 26, 3) := by decide +kernel
theorem d_D_wetBy_22 : decode b_D_wetBy 22 = .ok (.aload_n 0, 1) := by decide +kernel
theorem d_D_wetBy_23 : decode b_D_wetBy 23 = .ok (.getfield 29, 3) := by decide +kernel
theorem d_D_wetBy_26 : decode b_D_wetBy 26 = .ok (.getfield 92, 3) := by decide +kernel
theorem d_D_wetBy_29 : decode b_D_wetBy 29 = .ok (.iload_n 3, 1) := by decide +kernel
theorem d_D_wetBy_30 : decode b_D_wetBy 30 = .ok (.invokestatic 150, 3) := by decide +kernel
theorem d_D_wetBy_33 : decode b_D_wetBy 33 = .ok (.ifCond .ne 12, 3) := by decide +kernel
theorem d_D_wetBy_36 : decode b_D_wetBy 36 = .ok (.iload_n 2, 1) := by decide +kernel
theorem d_D_wetBy_37 : decode b_D_wetBy 37 = .ok (.iload_n 3, 1) := by decide +kernel
theorem d_D_wetBy_38 : decode b_D_wetBy 38 = .ok (.iconst 1, 1) := by decide +kernel
theorem d_D_wetBy_39 : decode b_D_wetBy 39 = .ok (.iadd, 1) := by decide +kernel
theorem d_D_wetBy_40 : decode b_D_wetBy 40 = .ok (.invokestatic 98, 3) := by decide +kernel
theorem d_D_wetBy_43 : decode b_D_wetBy 43 = .ok (.ior, 1) := by decide +kernel
theorem d_D_wetBy_44 : decode b_D_wetBy 44 = .ok (.istore_n 2, 1) := by decide +kernel
theorem d_D_wetBy_45 : decode b_D_wetBy 45 = .ok (.iinc 3 1, 3) := by decide +kernel
theorem d_D_wetBy_48 : decode b_D_wetBy 48 = .ok (.goto (-44), 3) := by decide +kernel
theorem d_D_wetBy_51 : decode b_D_wetBy 51 = .ok (.aload_n 0, 1) := by decide +kernel
theorem d_D_wetBy_52 : decode b_D_wetBy 52 = .ok (.getfield 69, 3) := by decide +kernel
theorem d_D_wetBy_55 : decode b_D_wetBy 55 = .ok (.iconst 2, 1) := by decide +kernel
theorem d_D_wetBy_56 : decode b_D_wetBy 56 = .ok (.isub, 1) := by decide +kernel
theorem d_D_wetBy_57 : decode b_D_wetBy 57 = .ok (.istore_n 3, 1) := by decide +kernel
theorem d_D_wetBy_58 : decode b_D_wetBy 58 = .ok (.iload_n 3, 1) := by decide +kernel
theorem d_D_wetBy_59 : decode b_D_wetBy 59 = .ok (.ifCond .lt 40, 3) := by decide +kernel
theorem d_D_wetBy_62 : decode b_D_wetBy 62 = .ok (.iload_n 2, 1) := by decide +kernel
theorem d_D_wetBy_63 : decode b_D_wetBy 63 = .ok (.iload_n 3, 1) := by decide +kernel
theorem d_D_wetBy_64 : decode b_D_wetBy 64 = .ok (.iconst 1, 1) := by decide +kernel
theorem d_D_wetBy_65 : decode b_D_wetBy 65 = .ok (.iadd, 1) := by decide +kernel
theorem d_D_wetBy_66 : decode b_D_wetBy 66 = .ok (.invokestatic 150, 3) := by decide +kernel
theorem d_D_wetBy_69 : decode b_D_wetBy 69 = .ok (.ifCond .eq 24, 3) := by decide +kernel
theorem d_D_wetBy_72 : decode b_D_wetBy 72 = .ok (.aload_n 0, 1) := by decide +kernel
theorem d_D_wetBy_73 : decode b_D_wetBy 73 = .ok (.getfield 29, 3) := by decide +kernel
theorem d_D_wetBy_76 : decode b_D_wetBy 76 = .ok (.getfield 92, 3) := by decide +kernel
theorem d_D_wetBy_79 : decode b_D_wetBy 79 = .ok (.iload_n 3, 1) := by decide +kernel
theorem d_D_wetBy_80 : decode b_D_wetBy 80 = .ok (.invokestatic 150, 3) := by decide +kernel
theorem d_D_wetBy_83 : decode b_D_wetBy 83 = .ok (.ifCond .ne 10, 3) := by decide +kernel
theorem d_D_wetBy_86 : decode b_D_wetBy 86 = .ok (.iload_n 2, 1) := by decide +kernel
theorem d_D_wetBy_87 : decode b_D_wetBy 87 = .ok (.iload_n 3, 1) := by decide +kernel
theorem d_D_wetBy_88 : decode b_D_wetBy 88 = .ok (.invokestatic 98, 3) := by decide +kernel
theorem d_D_wetBy_91 : decode b_D_wetBy 91 = .ok (.ior, 1) := by decide +kernel
theorem d_D_wetBy_92 : decode b_D_wetBy 92 = .ok (.istore_n 2, 1) := by decide +kernel
theorem d_D_wetBy_93 : decode b_D_wetBy 93 = .ok (.iinc 3 (-1), 3) := by decide +kernel
theorem d_D_wetBy_96 : decode b_D_wetBy 96 = .ok (.goto (-38), 3) := by decide +kernel
theorem d_D_wetBy_99 : decode b_D_wetBy 99 = .ok (.iload_n 2, 1) := by decide +kernel
theorem d_D_wetBy_100 : decode b_D_wetBy 100 = .ok (.ireturn, 1) := by decide +kernel
abbrev b_D_worthOf : ByteArray := prog_1_method_47_code
def y_D_worthOf : MethodName := ⟨R_D, "worthOf", "(I)I"⟩
theorem mc_D_worthOf : Cond.code y_D_worthOf b_D_worthOf 4 (Option.some .int) ∈ lw_use := g_use (List.mem_of_getElem? (i := 306) (by decide +kernel)) rfl
theorem d_D_worthOf_0 : decode b_D_worthOf 0 = .ok (.iconst 0, 1) := by decide +kernel
theorem d_D_worthOf_1 : decode b_D_worthOf 1 = .ok (.istore_n 2, 1) := by decide +kernel
theorem d_D_worthOf_2 : decode b_D_worthOf 2 = .ok (.iconst 0, 1) := by decide +kernel
theorem d_D_worthOf_3 : decode b_D_worthOf 3 = .ok (.istore_n 3, 1) := by decide +kernel
theorem d_D_worthOf_4 : decode b_D_worthOf 4 = .ok (.iload_n 3, 1) := by decide +kernel
theorem d_D_worthOf_5 : decode b_D_worthOf 5 = .ok (.aload_n 0, 1) := by decide +kernel
theorem d_D_worthOf_6 : decode b_D_worthOf 6 = .ok (.getfield 69, 3) := by decide +kernel
theorem d_D_worthOf_9 : decode b_D_worthOf 9 = .ok (.if_icmp .ge 26, 3) := by decide +kernel
theorem d_D_worthOf_12 : decode b_D_worthOf 12 = .ok (.iload_n 1, 1) := by decide +kernel
theorem d_D_worthOf_13 : decode b_D_worthOf 13 = .ok (.iload_n 3, 1) := by decide +kernel
theorem d_D_worthOf_14 : decode b_D_worthOf 14 = .ok (.invokestatic 150, 3) := by decide +kernel
theorem d_D_worthOf_17 : decode b_D_worthOf 17 = .ok (.ifCond .eq 12, 3) := by decide +kernel
theorem d_D_worthOf_20 : decode b_D_worthOf 20 = .ok (.iload_n 2, 1) := by decide +kernel
theorem d_D_worthOf_21 : decode b_D_worthOf 21 = .ok (.aload_n 0, 1) := by decide +kernel
theorem d_D_worthOf_22 : decode b_D_worthOf 22 = .ok (.getfield 20, 3) := by decide +kernel
theorem d_D_worthOf_25 : decode b_D_worthOf 25 = .ok (.iload_n 3, 1) := by decide +kernel
theorem d_D_worthOf_26 : decode b_D_worthOf 26 = .ok (.iaload, 1) := by decide +kernel
theorem d_D_worthOf_27 : decode b_D_worthOf 27 = .ok (.iadd, 1) := by decide +kernel
theorem d_D_worthOf_28 : decode b_D_worthOf 28 = .ok (.istore_n 2, 1) := by decide +kernel
theorem d_D_worthOf_29 : decode b_D_worthOf 29 = .ok (.iinc 3 1, 3) := by decide +kernel
theorem d_D_worthOf_32 : decode b_D_worthOf 32 = .ok (.goto (-28), 3) := by decide +kernel
theorem d_D_worthOf_35 : decode b_D_worthOf 35 = .ok (.iload_n 2, 1) := by decide +kernel
theorem d_D_worthOf_36 : decode b_D_worthOf 36 = .ok (.ireturn, 1) := by decide +kernel
abbrev b_D_clayOf : ByteArray := prog_1_method_48_code
def y_D_clayOf : MethodName := ⟨R_D, "clayOf", "(I)I"⟩
theorem mc_D_clayOf : Cond.code y_D_clayOf b_D_clayOf 4 (Option.some .int) ∈ lw_use := g_use (List.mem_of_getElem? (i := 248) (by decide +kernel)) rfl
theorem d_D_clayOf_0 : decode b_D_clayOf 0 = .ok (.iconst 0, 1) := by decide +kernel
theorem d_D_clayOf_1 : decode b_D_clayOf 1 = .ok (.istore_n 2, 1) := by decide +kernel
theorem d_D_clayOf_2 : decode b_D_clayOf 2 = .ok (.iconst 0, 1) := by decide +kernel
theorem d_D_clayOf_3 : decode b_D_clayOf 3 = .ok (.istore_n 3, 1) := by decide +kernel
theorem d_D_clayOf_4 : decode b_D_clayOf 4 = .ok (.iload_n 3, 1) := by decide +kernel
theorem d_D_clayOf_5 : decode b_D_clayOf 5 = .ok (.aload_n 0, 1) := by decide +kernel
theorem d_D_clayOf_6 : decode b_D_clayOf 6 = .ok (.getfield 69, 3) := by decide +kernel
theorem d_D_clayOf_9 : decode b_D_clayOf 9 = .ok (.if_icmp .ge 29, 3) := by decide +kernel
theorem d_D_clayOf_12 : decode b_D_clayOf 12 = .ok (.iload_n 1, 1) := by decide +kernel
theorem d_D_clayOf_13 : decode b_D_clayOf 13 = .ok (.iload_n 3, 1) := by decide +kernel
theorem d_D_clayOf_14 : decode b_D_clayOf 14 = .ok (.invokestatic 150, 3) := by decide +kernel
theorem d_D_clayOf_17 : decode b_D_clayOf 17 = .ok (.ifCond .eq 15, 3) := by decide +kernel
theorem d_D_clayOf_20 : decode b_D_clayOf 20 = .ok (.iload_n 2, 1) := by decide +kernel
theorem d_D_clayOf_21 : decode b_D_clayOf 21 = .ok (.aload_n 0, 1) := by decide +kernel
theorem d_D_clayOf_22 : decode b_D_clayOf 22 = .ok (.getfield 29, 3) := by decide +kernel
theorem d_D_clayOf_25 : decode b_D_clayOf 25 = .ok (.getfield 120, 3) := by decide +kernel
theorem d_D_clayOf_28 : decode b_D_clayOf 28 = .ok (.iload_n 3, 1) := by decide +kernel
theorem d_D_clayOf_29 : decode b_D_clayOf 29 = .ok (.iaload, 1) := by decide +kernel
theorem d_D_clayOf_30 : decode b_D_clayOf 30 = .ok (.iadd, 1) := by decide +kernel
theorem d_D_clayOf_31 : decode b_D_clayOf 31 = .ok (.istore_n 2, 1) := by decide +kernel
theorem d_D_clayOf_32 : decode b_D_clayOf 32 = .ok (.iinc 3 1, 3) := by decide +kernel
theorem d_D_clayOf_35 : decode b_D_clayOf 35 = .ok (.goto (-31), 3) := by decide +kernel
theorem d_D_clayOf_38 : decode b_D_clayOf 38 = .ok (.iload_n 2, 1) := by decide +kernel
theorem d_D_clayOf_39 : decode b_D_clayOf 39 = .ok (.ireturn, 1) := by decide +kernel
abbrev b_D_lackOf : ByteArray := prog_1_method_49_code
def y_D_lackOf : MethodName := ⟨R_D, "lackOf", "(II)I"⟩
theorem mc_D_lackOf : Cond.code y_D_lackOf b_D_lackOf 5 (Option.some .int) ∈ lw_use := g_use (List.mem_of_getElem? (i := 354) (by decide +kernel)) rfl
theorem d_D_lackOf_0 : decode b_D_lackOf 0 = .ok (.iconst 0, 1) := by decide +kernel
theorem d_D_lackOf_1 : decode b_D_lackOf 1 = .ok (.istore_n 3, 1) := by decide +kernel
theorem d_D_lackOf_2 : decode b_D_lackOf 2 = .ok (.iconst 0, 1) := by decide +kernel
theorem d_D_lackOf_3 : decode b_D_lackOf 3 = .ok (.istore 4, 2) := by decide +kernel
theorem d_D_lackOf_5 : decode b_D_lackOf 5 = .ok (.iload 4, 2) := by decide +kernel
theorem d_D_lackOf_7 : decode b_D_lackOf 7 = .ok (.aload_n 0, 1) := by decide +kernel
theorem d_D_lackOf_8 : decode b_D_lackOf 8 = .ok (.getfield 69, 3) := by decide +kernel
theorem d_D_lackOf_11 : decode b_D_lackOf 11 = .ok (.if_icmp .ge 43, 3) := by decide +kernel
theorem d_D_lackOf_14 : decode b_D_lackOf 14 = .ok (.iload_n 1, 1) := by decide +kernel
theorem d_D_lackOf_15 : decode b_D_lackOf 15 = .ok (.iload 4, 2) := by decide +kernel
theorem d_D_lackOf_17 : decode b_D_lackOf 17 = .ok (.invokestatic 150, 3) := by decide +kernel
theorem d_D_lackOf_20 : decode b_D_lackOf 20 = .ok (.ifCond .eq 28, 3) := by decide +kernel
theorem d_D_lackOf_23 : decode b_D_lackOf 23 = .ok (.iload_n 3, 1) := by decide +kernel
theorem d_D_lackOf_24 : decode b_D_lackOf 24 = .ok (.iload_n 2, 1) := by decide +kernel
theorem d_D_lackOf_25 : decode b_D_lackOf 25 = .ok (.aload_n 0, 1) := by decide +kernel
theorem d_D_lackOf_26 : decode b_D_lackOf 26 = .ok (.iload 4, 2) := by decide +kernel
theorem d_D_lackOf_28 : decode b_D_lackOf 28 = .ok (.aload_n 0, 1) := by decide +kernel
theorem d_D_lackOf_29 : decode b_D_lackOf 29 = .ok (.getfield 29, 3) := by decide +kernel
theorem d_D_lackOf_32 : decode b_D_lackOf 32 = .ok (.getfield 117, 3) := by decide +kernel
theorem d_D_lackOf_35 : decode b_D_lackOf 35 = .ok (.iload 4, 2) := by decide +kernel
theorem d_D_lackOf_37 : decode b_D_lackOf 37 = .ok (.iaload, 1) := by decide +kernel
theorem d_D_lackOf_38 : decode b_D_lackOf 38 = .ok (.invokevirtual 126, 3) := by decide +kernel
theorem d_D_lackOf_41 : decode b_D_lackOf 41 = .ok (.isub, 1) := by decide +kernel
theorem d_D_lackOf_42 : decode b_D_lackOf 42 = .ok (.iconst 0, 1) := by decide +kernel
theorem d_D_lackOf_43 : decode b_D_lackOf 43 = .ok (.invokestatic 227, 3) := by decide +kernel
theorem d_D_lackOf_46 : decode b_D_lackOf 46 = .ok (.iadd, 1) := by decide +kernel
theorem d_D_lackOf_47 : decode b_D_lackOf 47 = .ok (.istore_n 3, 1) := by decide +kernel
theorem d_D_lackOf_48 : decode b_D_lackOf 48 = .ok (.iinc 4 1, 3) := by decide +kernel
theorem d_D_lackOf_51 : decode b_D_lackOf 51 = .ok (.goto (-46), 3) := by decide +kernel
theorem d_D_lackOf_54 : decode b_D_lackOf 54 = .ok (.iload_n 3, 1) := by decide +kernel
theorem d_D_lackOf_55 : decode b_D_lackOf 55 = .ok (.ireturn, 1) := by decide +kernel
abbrev b_D_reckonSets : ByteArray := prog_1_method_50_code
def y_D_reckonSets : MethodName := ⟨R_D, "reckonSets", "(I)V"⟩
theorem mc_D_reckonSets : Cond.code y_D_reckonSets b_D_reckonSets 5 none ∈ lw_use := g_use (List.mem_of_getElem? (i := 362) (by decide +kernel)) rfl
theorem d_D_reckonSets_0 : decode b_D_reckonSets 0 = .ok (.aload_n 0, 1) := by decide +kernel
theorem d_D_reckonSets_1 : decode b_D_reckonSets 1 = .ok (.invokevirtual 107, 3) := by decide +kernel
theorem d_D_reckonSets_4 : decode b_D_reckonSets 4 = .ok (.aload_n 0, 1) := by decide +kernel
theorem d_D_reckonSets_5 : decode b_D_reckonSets 5 = .ok (.iload_n 1, 1) := by decide +kernel
theorem d_D_reckonSets_6 : decode b_D_reckonSets 6 = .ok (.invokevirtual 161, 3) := by decide +kernel
theorem d_D_reckonSets_9 : decode b_D_reckonSets 9 = .ok (.iconst (-1), 1) := by decide +kernel
theorem d_D_reckonSets_10 : decode b_D_reckonSets 10 = .ok (.ixor, 1) := by decide +kernel
theorem d_D_reckonSets_11 : decode b_D_reckonSets 11 = .ok (.iand, 1) := by decide +kernel
theorem d_D_reckonSets_12 : decode b_D_reckonSets 12 = .ok (.istore_n 2, 1) := by decide +kernel
theorem d_D_reckonSets_13 : decode b_D_reckonSets 13 = .ok (.iconst 0, 1) := by decide +kernel
theorem d_D_reckonSets_14 : decode b_D_reckonSets 14 = .ok (.istore_n 3, 1) := by decide +kernel
theorem d_D_reckonSets_15 : decode b_D_reckonSets 15 = .ok (.iload_n 3, 1) := by decide +kernel
theorem d_D_reckonSets_16 : decode b_D_reckonSets 16 = .ok (.aload_n 0, 1) := by decide +kernel
theorem d_D_reckonSets_17 : decode b_D_reckonSets 17 = .ok (.invokevirtual 107, 3) := by decide +kernel
theorem d_D_reckonSets_20 : decode b_D_reckonSets 20 = .ok (.if_icmp .gt 67, 3) := by decide +kernel
theorem d_D_reckonSets_23 : decode b_D_reckonSets 23 = .ok (.iload_n 3, 1) := by decide +kernel
theorem d_D_reckonSets_24 : decode b_D_reckonSets 24 = .ok (.iload_n 2, 1) := by decide +kernel
theorem d_D_reckonSets_25 : decode b_D_reckonSets 25 = .ok (.iand, 1) := by decide +kernel
theorem d_D_reckonSets_26 : decode b_D_reckonSets 26 = .ok (.iload_n 2, 1) := by decide +kernel
theorem d_D_reckonSets_27 : decode b_D_reckonSets 27 = .ok (.if_icmp .ne 7, 3) := by decide +kernel
theorem d_D_reckonSets_30 : decode b_D_reckonSets 30 = .ok (.iconst 1, 1) := by decide +kernel
theorem d_D_reckonSets_31 : decode b_D_reckonSets 31 = .ok (.goto 4, 3) := by decide +kernel
theorem d_D_reckonSets_34 : decode b_D_reckonSets 34 = .ok (.iconst 0, 1) := by decide +kernel
theorem d_D_reckonSets_35 : decode b_D_reckonSets 35 = .ok (.istore 4, 2) := by decide +kernel
theorem d_D_reckonSets_37 : decode b_D_reckonSets 37 = .ok (.aload_n 0, 1) := by decide +kernel
theorem d_D_reckonSets_38 : decode b_D_reckonSets 38 = .ok (.getfield 52, 3) := by decide +kernel
theorem d_D_reckonSets_41 : decode b_D_reckonSets 41 = .ok (.iload_n 3, 1) := by decide +kernel
theorem d_D_reckonSets_42 : decode b_D_reckonSets 42 = .ok (.iload 4, 2) := by decide +kernel
theorem d_D_reckonSets_44 : decode b_D_reckonSets 44 = .ok (.ifCond .eq 12, 3) := by decide +kernel
theorem d_D_reckonSets_47 : decode b_D_reckonSets 47 = .ok (.aload_n 0, 1) := by decide +kernel
theorem d_D_reckonSets_48 : decode b_D_reckonSets 48 = .ok (.iload_n 3, 1) := by decide +kernel
theorem d_D_reckonSets_49 : decode b_D_reckonSets 49 = .ok (.iload_n 1, 1) := by decide +kernel
theorem d_D_reckonSets_50 : decode b_D_reckonSets 50 = .ok (.invokevirtual 164, 3) := by decide +kernel
theorem d_D_reckonSets_53 : decode b_D_reckonSets 53 = .ok (.goto 5, 3) := by decide +kernel
theorem d_D_reckonSets_56 : decode b_D_reckonSets 56 = .ok (.ldc 236, 2) := by decide +kernel
theorem d_D_reckonSets_58 : decode b_D_reckonSets 58 = .ok (.iastore, 1) := by decide +kernel
theorem d_D_reckonSets_59 : decode b_D_reckonSets 59 = .ok (.aload_n 0, 1) := by decide +kernel
theorem d_D_reckonSets_60 : decode b_D_reckonSets 60 = .ok (.getfield 49, 3) := by decide +kernel
theorem d_D_reckonSets_63 : decode b_D_reckonSets 63 = .ok (.iload_n 3, 1) := by decide +kernel
theorem d_D_reckonSets_64 : decode b_D_reckonSets 64 = .ok (.aload_n 0, 1) := by decide +kernel
theorem d_D_reckonSets_65 : decode b_D_reckonSets 65 = .ok (.aload_n 0, 1) := by decide +kernel
theorem d_D_reckonSets_66 : decode b_D_reckonSets 66 = .ok (.aload_n 0, 1) := by decide +kernel
theorem d_D_reckonSets_67 : decode b_D_reckonSets 67 = .ok (.invokevirtual 107, 3) := by decide +kernel
theorem d_D_reckonSets_70 : decode b_D_reckonSets 70 = .ok (.iload_n 3, 1) := by decide +kernel
theorem d_D_reckonSets_71 : decode b_D_reckonSets 71 = .ok (.iconst (-1), 1) := by decide +kernel
theorem d_D_reckonSets_72 : decode b_D_reckonSets 72 = .ok (.ixor, 1) := by decide +kernel
theorem d_D_reckonSets_73 : decode b_D_reckonSets 73 = .ok (.iand, 1) := by decide +kernel
theorem d_D_reckonSets_74 : decode b_D_reckonSets 74 = .ok (.invokevirtual 144, 3) := by decide +kernel
theorem d_D_reckonSets_77 : decode b_D_reckonSets 77 = .ok (.invokevirtual 147, 3) := by decide +kernel
theorem d_D_reckonSets_80 : decode b_D_reckonSets 80 = .ok (.iastore, 1) := by decide +kernel
theorem d_D_reckonSets_81 : decode b_D_reckonSets 81 = .ok (.iinc 3 1, 3) := by decide +kernel
theorem d_D_reckonSets_84 : decode b_D_reckonSets 84 = .ok (.goto (-69), 3) := by decide +kernel
theorem d_D_reckonSets_87 : decode b_D_reckonSets 87 = .ok (.return_, 1) := by decide +kernel
abbrev b_D_bestSet : ByteArray := prog_1_method_51_code
def y_D_bestSet : MethodName := ⟨R_D, "bestSet", "(I)I"⟩
theorem mc_D_bestSet : Cond.code y_D_bestSet b_D_bestSet 5 (Option.some .int) ∈ lw_use := g_use (List.mem_of_getElem? (i := 367) (by decide +kernel)) rfl
theorem d_D_bestSet_0 : decode b_D_bestSet 0 = .ok (.aload_n 0, 1) := by decide +kernel
theorem d_D_bestSet_1 : decode b_D_bestSet 1 = .ok (.invokevirtual 107, 3) := by decide +kernel
theorem d_D_bestSet_4 : decode b_D_bestSet 4 = .ok (.istore_n 2, 1) := by decide +kernel
theorem d_D_bestSet_5 : decode b_D_bestSet 5 = .ok (.iconst 0, 1) := by decide +kernel
theorem d_D_bestSet_6 : decode b_D_bestSet 6 = .ok (.istore_n 3, 1) := by decide +kernel
theorem d_D_bestSet_7 : decode b_D_bestSet 7 = .ok (.iconst 0, 1) := by decide +kernel
theorem d_D_bestSet_8 : decode b_D_bestSet 8 = .ok (.istore 4, 2) := by decide +kernel
theorem d_D_bestSet_10 : decode b_D_bestSet 10 = .ok (.iload 4, 2) := by decide +kernel
theorem d_D_bestSet_12 : decode b_D_bestSet 12 = .ok (.aload_n 0, 1) := by decide +kernel
theorem d_D_bestSet_13 : decode b_D_bestSet 13 = .ok (.invokevirtual 107, 3) := by decide +kernel
theorem d_D_bestSet_16 : decode b_D_bestSet 16 = .ok (.if_icmp .gt 39, 3) := by decide +kernel
theorem d_D_bestSet_19 : decode b_D_bestSet 19 = .ok (.aload_n 0, 1) := by decide +kernel
theorem d_D_bestSet_20 : decode b_D_bestSet 20 = .ok (.getfield 52, 3) := by decide +kernel
theorem d_D_bestSet_23 : decode b_D_bestSet 23 = .ok (.iload 4, 2) := by decide +kernel
theorem d_D_bestSet_25 : decode b_D_bestSet 25 = .ok (.iaload, 1) := by decide +kernel
theorem d_D_bestSet_26 : decode b_D_bestSet 26 = .ok (.iload_n 1, 1) := by decide +kernel
theorem d_D_bestSet_27 : decode b_D_bestSet 27 = .ok (.if_icmp .gt 22, 3) := by decide +kernel
theorem d_D_bestSet_30 : decode b_D_bestSet 30 = .ok (.iload_n 3, 1) := by decide +kernel
theorem d_D_bestSet_31 : decode b_D_bestSet 31 = .ok (.ifCond .eq 13, 3) := by decide +kernel
theorem d_D_bestSet_34 : decode b_D_bestSet 34 = .ok (.aload_n 0, 1) := by decide +kernel
theorem d_D_bestSet_35 : decode b_D_bestSet 35 = .ok (.iload 4, 2) := by decide +kernel
theorem d_D_bestSet_37 : decode b_D_bestSet 37 = .ok (.iload_n 2, 1) := by decide +kernel
theorem d_D_bestSet_38 : decode b_D_bestSet 38 = .ok (.invokevirtual 237, 3) := by decide +kernel
theorem d_D_bestSet_41 : decode b_D_bestSet 41 = .ok (.ifCond .eq 8, 3) := by decide +kernel
theorem d_D_bestSet_44 : decode b_D_bestSet 44 = .ok (.iload 4, 2) := by decide +kernel
theorem d_D_bestSet_46 : decode b_D_bestSet 46 = .ok (.istore_n 2, 1) := by decide +kernel
theorem d_D_bestSet_47 : decode b_D_bestSet 47 = .ok (.iconst 1, 1) := by decide +kernel
theorem d_D_bestSet_48 : decode b_D_bestSet 48 = .ok (.istore_n 3, 1) := by decide +kernel
theorem d_D_bestSet_49 : decode b_D_bestSet 49 = .ok (.iinc 4 1, 3) := by decide +kernel
theorem d_D_bestSet_52 : decode b_D_bestSet 52 = .ok (.goto (-42), 3) := by decide +kernel
theorem d_D_bestSet_55 : decode b_D_bestSet 55 = .ok (.iload_n 2, 1) := by decide +kernel
theorem d_D_bestSet_56 : decode b_D_bestSet 56 = .ok (.ireturn, 1) := by decide +kernel
abbrev b_D_isBetter : ByteArray := prog_1_method_52_code
def y_D_isBetter : MethodName := ⟨R_D, "isBetter", "(II)Z"⟩
theorem mc_D_isBetter : Cond.code y_D_isBetter b_D_isBetter 3 (Option.some .boolean) ∈ lw_use := g_use (List.mem_of_getElem? (i := 371) (by decide +kernel)) rfl
theorem d_D_isBetter_0 : decode b_D_isBetter 0 = .ok (.aload_n 0, 1) := by decide +kernel
theorem d_D_isBetter_1 : decode b_D_isBetter 1 = .ok (.getfield 49, 3) := by decide +kernel
theorem d_D_isBetter_4 : decode b_D_isBetter 4 = .ok (.iload_n 1, 1) := by decide +kernel
theorem d_D_isBetter_5 : decode b_D_isBetter 5 = .ok (.iaload, 1) := by decide +kernel
theorem d_D_isBetter_6 : decode b_D_isBetter 6 = .ok (.aload_n 0, 1) := by decide +kernel
theorem d_D_isBetter_7 : decode b_D_isBetter 7 = .ok (.getfield 49, 3) := by decide +kernel
theorem d_D_isBetter_10 : decode b_D_isBetter 10 = .ok (.iload_n 2, 1) := by decide +kernel
theorem d_D_isBetter_11 : decode b_D_isBetter 11 = .ok (.iaload, 1) := by decide +kernel
theorem d_D_isBetter_12 : decode b_D_isBetter 12 = .ok (.if_icmp .eq 24, 3) := by decide +kernel
theorem d_D_isBetter_15 : decode b_D_isBetter 15 = .ok (.aload_n 0, 1) := by decide +kernel
theorem d_D_isBetter_16 : decode b_D_isBetter 16 = .ok (.getfield 49, 3) := by decide +kernel
theorem d_D_isBetter_19 : decode b_D_isBetter 19 = .ok (.iload_n 1, 1) := by decide +kernel
theorem d_D_isBetter_20 : decode b_D_isBetter 20 = .ok (.iaload, 1) := by decide +kernel
theorem d_D_isBetter_21 : decode b_D_isBetter 21 = .ok (.aload_n 0, 1) := by decide +kernel
theorem d_D_isBetter_22 : decode b_D_isBetter 22 = .ok (.getfield 49, 3) := by decide +kernel
theorem d_D_isBetter_25 : decode b_D_isBetter 25 = .ok (.iload_n 2, 1) := by decide +kernel
theorem d_D_isBetter_26 : decode b_D_isBetter 26 = .ok (.iaload, 1) := by decide +kernel
theorem d_D_isBetter_27 : decode b_D_isBetter 27 = .ok (.if_icmp .ge 7, 3) := by decide +kernel
theorem d_D_isBetter_30 : decode b_D_isBetter 30 = .ok (.iconst 1, 1) := by decide +kernel
theorem d_D_isBetter_31 : decode b_D_isBetter 31 = .ok (.goto 4, 3) := by decide +kernel
theorem d_D_isBetter_34 : decode b_D_isBetter 34 = .ok (.iconst 0, 1) := by decide +kernel
theorem d_D_isBetter_35 : decode b_D_isBetter 35 = .ok (.ireturn, 1) := by decide +kernel
theorem d_D_isBetter_36 : decode b_D_isBetter 36 = .ok (.aload_n 0, 1) := by decide +kernel
theorem d_D_isBetter_37 : decode b_D_isBetter 37 = .ok (.getfield 52, 3) := by decide +kernel
theorem d_D_isBetter_40 : decode b_D_isBetter 40 = .ok (.iload_n 1, 1) := by decide +kernel
theorem d_D_isBetter_41 : decode b_D_isBetter 41 = .ok (.iaload, 1) := by decide +kernel
theorem d_D_isBetter_42 : decode b_D_isBetter 42 = .ok (.aload_n 0, 1) := by decide +kernel
theorem d_D_isBetter_43 : decode b_D_isBetter 43 = .ok (.getfield 52, 3) := by decide +kernel
theorem d_D_isBetter_46 : decode b_D_isBetter 46 = .ok (.iload_n 2, 1) := by decide +kernel
theorem d_D_isBetter_47 : decode b_D_isBetter 47 = .ok (.iaload, 1) := by decide +kernel
theorem d_D_isBetter_48 : decode b_D_isBetter 48 = .ok (.if_icmp .ge 7, 3) := by decide +kernel
theorem d_D_isBetter_51 : decode b_D_isBetter 51 = .ok (.iconst 1, 1) := by decide +kernel
theorem d_D_isBetter_52 : decode b_D_isBetter 52 = .ok (.goto 4, 3) := by decide +kernel
theorem d_D_isBetter_55 : decode b_D_isBetter 55 = .ok (.iconst 0, 1) := by decide +kernel
theorem d_D_isBetter_56 : decode b_D_isBetter 56 = .ok (.ireturn, 1) := by decide +kernel
abbrev b_D_readStorms : ByteArray := prog_1_method_53_code
def y_D_readStorms : MethodName := ⟨R_D, "readStorms", "(IJ)Z"⟩
theorem mc_D_readStorms : Cond.code y_D_readStorms b_D_readStorms 7 (Option.some .boolean) ∈ lw_use := g_use (List.mem_of_getElem? (i := 383) (by decide +kernel)) rfl
theorem d_D_readStorms_0 : decode b_D_readStorms 0 = .ok (.lload_n 2, 1) := by decide +kernel
theorem d_D_readStorms_1 : decode b_D_readStorms 1 = .ok (.lconst 0, 1) := by decide +kernel
theorem d_D_readStorms_2 : decode b_D_readStorms 2 = .ok (.lcmp, 1) := by decide +kernel
theorem d_D_readStorms_3 : decode b_D_readStorms 3 = .ok (.ifCond .ge 5, 3) := by decide +kernel
theorem d_D_readStorms_6 : decode b_D_readStorms 6 = .ok (.iconst 0, 1) := by decide +kernel
theorem d_D_readStorms_7 : decode b_D_readStorms 7 = .ok (.ireturn, 1) := by decide +kernel
theorem d_D_readStorms_8 : decode b_D_readStorms 8 = .ok (.lload_n 2, 1) := by decide +kernel
theorem d_D_readStorms_9 : decode b_D_readStorms 9 = .ok (.lstore 4, 2) := by decide +kernel
theorem d_D_readStorms_11 : decode b_D_readStorms 11 = .ok (.iload_n 1, 1) := by decide +kernel
theorem d_D_readStorms_12 : decode b_D_readStorms 12 = .ok (.iconst 1, 1) := by decide +kernel
theorem d_D_readStorms_13 : decode b_D_readStorms 13 = .ok (.isub, 1) := by decide +kernel
theorem d_D_readStorms_14 : decode b_D_readStorms 14 = .ok (.istore 6, 2) := by decide +kernel
theorem d_D_readStorms_16 : decode b_D_readStorms 16 = .ok (.iload 6, 2) := by decide +kernel
theorem d_D_readStorms_18 : decode b_D_readStorms 18 = .ok (.ifCond .lt 46, 3) := by decide +kernel
theorem d_D_readStorms_21 : decode b_D_readStorms 21 = .ok (.aload_n 0, 1) := by decide +kernel
theorem d_D_readStorms_22 : decode b_D_readStorms 22 = .ok (.getfield 43, 3) := by decide +kernel
theorem d_D_readStorms_25 : decode b_D_readStorms 25 = .ok (.iload 6, 2) := by decide +kernel
theorem d_D_readStorms_27 : decode b_D_readStorms 27 = .ok (.lload 4, 2) := by decide +kernel
theorem d_D_readStorms_29 : decode b_D_readStorms 29 = .ok (.ldc2_w 240, 3) := by decide +kernel
theorem d_D_readStorms_32 : decode b_D_readStorms 32 = .ok (.lrem, 1) := by decide +kernel
theorem d_D_readStorms_33 : decode b_D_readStorms 33 = .ok (.l2i, 1) := by decide +kernel
theorem d_D_readStorms_34 : decode b_D_readStorms 34 = .ok (.iastore, 1) := by decide +kernel
theorem d_D_readStorms_35 : decode b_D_readStorms 35 = .ok (.lload 4, 2) := by decide +kernel
theorem d_D_readStorms_37 : decode b_D_readStorms 37 = .ok (.ldc2_w 240, 3) := by decide +kernel
theorem d_D_readStorms_40 : decode b_D_readStorms 40 = .ok (.ldiv, 1) := by decide +kernel
theorem d_D_readStorms_41 : decode b_D_readStorms 41 = .ok (.lstore 4, 2) := by decide +kernel
theorem d_D_readStorms_43 : decode b_D_readStorms 43 = .ok (.aload_n 0, 1) := by decide +kernel
theorem d_D_readStorms_44 : decode b_D_readStorms 44 = .ok (.getfield 43, 3) := by decide +kernel
theorem d_D_readStorms_47 : decode b_D_readStorms 47 = .ok (.iload 6, 2) := by decide +kernel
theorem d_D_readStorms_49 : decode b_D_readStorms 49 = .ok (.iaload, 1) := by decide +kernel
theorem d_D_readStorms_50 : decode b_D_readStorms 50 = .ok (.invokestatic 134, 3) := by decide +kernel
theorem d_D_readStorms_53 : decode b_D_readStorms 53 = .ok (.ifCond .ne 5, 3) := by decide +kernel
theorem d_D_readStorms_56 : decode b_D_readStorms 56 = .ok (.iconst 0, 1) := by decide +kernel
theorem d_D_readStorms_57 : decode b_D_readStorms 57 = .ok (.ireturn, 1) := by decide +kernel
theorem d_D_readStorms_58 : decode b_D_readStorms 58 = .ok (.iinc 6 (-1), 3) := by decide +kernel
theorem d_D_readStorms_61 : decode b_D_readStorms 61 = .ok (.goto (-45), 3) := by decide +kernel
theorem d_D_readStorms_64 : decode b_D_readStorms 64 = .ok (.lload 4, 2) := by decide +kernel
theorem d_D_readStorms_66 : decode b_D_readStorms 66 = .ok (.lconst 0, 1) := by decide +kernel
theorem d_D_readStorms_67 : decode b_D_readStorms 67 = .ok (.lcmp, 1) := by decide +kernel
theorem d_D_readStorms_68 : decode b_D_readStorms 68 = .ok (.ifCond .ne 7, 3) := by decide +kernel
theorem d_D_readStorms_71 : decode b_D_readStorms 71 = .ok (.iconst 1, 1) := by decide +kernel
theorem d_D_readStorms_72 : decode b_D_readStorms 72 = .ok (.goto 4, 3) := by decide +kernel
theorem d_D_readStorms_75 : decode b_D_readStorms 75 = .ok (.iconst 0, 1) := by decide +kernel
theorem d_D_readStorms_76 : decode b_D_readStorms 76 = .ok (.ireturn, 1) := by decide +kernel
abbrev b_D_netOf : ByteArray := prog_1_method_54_code
def y_D_netOf : MethodName := ⟨R_D, "netOf", "(I)I"⟩
theorem mc_D_netOf : Cond.code y_D_netOf b_D_netOf 4 (Option.some .int) ∈ lw_use := g_use (List.mem_of_getElem? (i := 397) (by decide +kernel)) rfl
theorem d_D_netOf_0 : decode b_D_netOf 0 = .ok (.iconst 0, 1) := by decide +kernel
theorem d_D_netOf_1 : decode b_D_netOf 1 = .ok (.istore_n 2, 1) := by decide +kernel
theorem d_D_netOf_2 : decode b_D_netOf 2 = .ok (.iconst 0, 1) := by decide +kernel
theorem d_D_netOf_3 : decode b_D_netOf 3 = .ok (.istore_n 3, 1) := by decide +kernel
theorem d_D_netOf_4 : decode b_D_netOf 4 = .ok (.iload_n 3, 1) := by decide +kernel
theorem d_D_netOf_5 : decode b_D_netOf 5 = .ok (.aload_n 0, 1) := by decide +kernel
theorem d_D_netOf_6 : decode b_D_netOf 6 = .ok (.getfield 69, 3) := by decide +kernel
theorem d_D_netOf_9 : decode b_D_netOf 9 = .ok (.if_icmp .ge 35, 3) := by decide +kernel
theorem d_D_netOf_12 : decode b_D_netOf 12 = .ok (.iload_n 2, 1) := by decide +kernel
theorem d_D_netOf_13 : decode b_D_netOf 13 = .ok (.aload_n 0, 1) := by decide +kernel
theorem d_D_netOf_14 : decode b_D_netOf 14 = .ok (.getfield 29, 3) := by decide +kernel
theorem d_D_netOf_17 : decode b_D_netOf 17 = .ok (.getfield 130, 3) := by decide +kernel
theorem d_D_netOf_20 : decode b_D_netOf 20 = .ok (.iload_n 3, 1) := by decide +kernel
theorem d_D_netOf_21 : decode b_D_netOf 21 = .ok (.aaload, 1) := by decide +kernel
theorem d_D_netOf_22 : decode b_D_netOf 22 = .ok (.iload_n 1, 1) := by decide +kernel
theorem d_D_netOf_23 : decode b_D_netOf 23 = .ok (.iaload, 1) := by decide +kernel
theorem d_D_netOf_24 : decode b_D_netOf 24 = .ok (.aload_n 0, 1) := by decide +kernel
theorem d_D_netOf_25 : decode b_D_netOf 25 = .ok (.getfield 29, 3) := by decide +kernel
theorem d_D_netOf_28 : decode b_D_netOf 28 = .ok (.getfield 130, 3) := by decide +kernel
theorem d_D_netOf_31 : decode b_D_netOf 31 = .ok (.iload_n 1, 1) := by decide +kernel
theorem d_D_netOf_32 : decode b_D_netOf 32 = .ok (.aaload, 1) := by decide +kernel
theorem d_D_netOf_33 : decode b_D_netOf 33 = .ok (.iload_n 3, 1) := by decide +kernel
theorem d_D_netOf_34 : decode b_D_netOf 34 = .ok (.iaload, 1) := by decide +kernel
theorem d_D_netOf_35 : decode b_D_netOf 35 = .ok (.isub, 1) := by decide +kernel
theorem d_D_netOf_36 : decode b_D_netOf 36 = .ok (.iadd, 1) := by decide +kernel
theorem d_D_netOf_37 : decode b_D_netOf 37 = .ok (.istore_n 2, 1) := by decide +kernel
theorem d_D_netOf_38 : decode b_D_netOf 38 = .ok (.iinc 3 1, 3) := by decide +kernel
theorem d_D_netOf_41 : decode b_D_netOf 41 = .ok (.goto (-37), 3) := by decide +kernel
theorem d_D_netOf_44 : decode b_D_netOf 44 = .ok (.iload_n 2, 1) := by decide +kernel
theorem d_D_netOf_45 : decode b_D_netOf 45 = .ok (.ireturn, 1) := by decide +kernel
abbrev b_D_mostCuts : ByteArray := prog_1_method_55_code
def y_D_mostCuts : MethodName := ⟨R_D, "mostCuts", "(I)I"⟩
theorem mc_D_mostCuts : Cond.code y_D_mostCuts b_D_mostCuts 6 (Option.some .int) ∈ lw_use := g_use (List.mem_of_getElem? (i := 406) (by decide +kernel)) rfl
theorem d_D_mostCuts_0 : decode b_D_mostCuts 0 = .ok (.iconst 0, 1) := by decide +kernel
theorem d_D_mostCuts_1 : decode b_D_mostCuts 1 = .ok (.istore_n 2, 1) := by decide +kernel
theorem d_D_mostCuts_2 : decode b_D_mostCuts 2 = .ok (.iload_n 2, 1) := by decide +kernel
theorem d_D_mostCuts_3 : decode b_D_mostCuts 3 = .ok (.iload_n 1, 1) := by decide +kernel
theorem d_D_mostCuts_4 : decode b_D_mostCuts 4 = .ok (.if_icmp .gt 93, 3) := by decide +kernel
theorem d_D_mostCuts_7 : decode b_D_mostCuts 7 = .ok (.iconst 0, 1) := by decide +kernel
theorem d_D_mostCuts_8 : decode b_D_mostCuts 8 = .ok (.istore_n 3, 1) := by decide +kernel
theorem d_D_mostCuts_9 : decode b_D_mostCuts 9 = .ok (.iconst 0, 1) := by decide +kernel
theorem d_D_mostCuts_10 : decode b_D_mostCuts 10 = .ok (.istore 4, 2) := by decide +kernel
theorem d_D_mostCuts_12 : decode b_D_mostCuts 12 = .ok (.iconst 0, 1) := by decide +kernel
theorem d_D_mostCuts_13 : decode b_D_mostCuts 13 = .ok (.istore 5, 2) := by decide +kernel
theorem d_D_mostCuts_15 : decode b_D_mostCuts 15 = .ok (.iload 5, 2) := by decide +kernel
theorem d_D_mostCuts_17 : decode b_D_mostCuts 17 = .ok (.aload_n 0, 1) := by decide +kernel
theorem d_D_mostCuts_18 : decode b_D_mostCuts 18 = .ok (.getfield 69, 3) := by decide +kernel
theorem d_D_mostCuts_21 : decode b_D_mostCuts 21 = .ok (.if_icmp .ge 48, 3) := by decide +kernel
theorem d_D_mostCuts_24 : decode b_D_mostCuts 24 = .ok (.iload_n 2, 1) := by decide +kernel
theorem d_D_mostCuts_25 : decode b_D_mostCuts 25 = .ok (.iload 5, 2) := by decide +kernel
theorem d_D_mostCuts_27 : decode b_D_mostCuts 27 = .ok (.invokestatic 150, 3) := by decide +kernel
theorem d_D_mostCuts_30 : decode b_D_mostCuts 30 = .ok (.ifCond .eq 33, 3) := by decide +kernel
theorem d_D_mostCuts_33 : decode b_D_mostCuts 33 = .ok (.iload_n 3, 1) := by decide +kernel
theorem d_D_mostCuts_34 : decode b_D_mostCuts 34 = .ok (.aload_n 0, 1) := by decide +kernel
theorem d_D_mostCuts_35 : decode b_D_mostCuts 35 = .ok (.getfield 55, 3) := by decide +kernel
theorem d_D_mostCuts_38 : decode b_D_mostCuts 38 = .ok (.iload_n 2, 1) := by decide +kernel
theorem d_D_mostCuts_39 : decode b_D_mostCuts 39 = .ok (.iload 5, 2) := by decide +kernel
theorem d_D_mostCuts_41 : decode b_D_mostCuts 41 = .ok (.invokestatic 98, 3) := by decide +kernel
theorem d_D_mostCuts_44 : decode b_D_mostCuts 44 = .ok (.iconst (-1), 1) := by decide +kernel
theorem d_D_mostCuts_45 : decode b_D_mostCuts 45 = .ok (.ixor, 1) := by decide +kernel
theorem d_D_mostCuts_46 : decode b_D_mostCuts 46 = .ok (.iand, 1) := by decide +kernel
theorem d_D_mostCuts_47 : decode b_D_mostCuts 47 = .ok (.iaload, 1) := by decide +kernel
theorem d_D_mostCuts_48 : decode b_D_mostCuts 48 = .ok (.invokestatic 227, 3) := by decide +kernel
theorem d_D_mostCuts_51 : decode b_D_mostCuts 51 = .ok (.istore_n 3, 1) := by decide +kernel
theorem d_D_mostCuts_52 : decode b_D_mostCuts 52 = .ok (.iload 4, 2) := by decide +kernel
theorem d_D_mostCuts_54 : decode b_D_mostCuts 54 = .ok (.aload_n 0, 1) := by decide +kernel
theorem d_D_mostCuts_55 : decode b_D_mostCuts 55 = .ok (.iload 5, 2) := by decide +kernel
theorem d_D_mostCuts_57 : decode b_D_mostCuts 57 = .ok (.invokevirtual 181, 3) := by decide +kernel
theorem d_D_mostCuts_60 : decode b_D_mostCuts 60 = .ok (.iadd, 1) := by decide +kernel
theorem d_D_mostCuts_61 : decode b_D_mostCuts 61 = .ok (.istore 4, 2) := by decide +kernel
theorem d_D_mostCuts_63 : decode b_D_mostCuts 63 = .ok (.iinc 5 1, 3) := by decide +kernel
theorem d_D_mostCuts_66 : decode b_D_mostCuts 66 = .ok (.goto (-51), 3) := by decide +kernel
theorem d_D_mostCuts_69 : decode b_D_mostCuts 69 = .ok (.aload_n 0, 1) := by decide +kernel
theorem d_D_mostCuts_70 : decode b_D_mostCuts 70 = .ok (.getfield 55, 3) := by decide +kernel
theorem d_D_mostCuts_73 : decode b_D_mostCuts 73 = .ok (.iload_n 2, 1) := by decide +kernel
theorem d_D_mostCuts_74 : decode b_D_mostCuts 74 = .ok (.iload_n 2, 1) := by decide +kernel
theorem d_D_mostCuts_75 : decode b_D_mostCuts 75 = .ok (.ifCond .eq 14, 3) := by decide +kernel
theorem d_D_mostCuts_78 : decode b_D_mostCuts 78 = .ok (.iload 4, 2) := by decide +kernel
theorem d_D_mostCuts_80 : decode b_D_mostCuts 80 = .ok (.ifCond .ne 9, 3) := by decide +kernel
theorem d_D_mostCuts_83 : decode b_D_mostCuts 83 = .ok (.iload_n 3, 1) := by decide +kernel
theorem d_D_mostCuts_84 : decode b_D_mostCuts 84 = .ok (.iconst 1, 1) := by decide +kernel
theorem d_D_mostCuts_85 : decode b_D_mostCuts 85 = .ok (.iadd, 1) := by decide +kernel
theorem d_D_mostCuts_86 : decode b_D_mostCuts 86 = .ok (.goto 4, 3) := by decide +kernel
theorem d_D_mostCuts_89 : decode b_D_mostCuts 89 = .ok (.iload_n 3, 1) := by decide +kernel
theorem d_D_mostCuts_90 : decode b_D_mostCuts 90 = .ok (.iastore, 1) := by decide +kernel
theorem d_D_mostCuts_91 : decode b_D_mostCuts 91 = .ok (.iinc 2 1, 3) := by decide +kernel
theorem d_D_mostCuts_94 : decode b_D_mostCuts 94 = .ok (.goto (-92), 3) := by decide +kernel
theorem d_D_mostCuts_97 : decode b_D_mostCuts 97 = .ok (.aload_n 0, 1) := by decide +kernel
theorem d_D_mostCuts_98 : decode b_D_mostCuts 98 = .ok (.getfield 55, 3) := by decide +kernel
theorem d_D_mostCuts_101 : decode b_D_mostCuts 101 = .ok (.iload_n 1, 1) := by decide +kernel
theorem d_D_mostCuts_102 : decode b_D_mostCuts 102 = .ok (.iaload, 1) := by decide +kernel
theorem d_D_mostCuts_103 : decode b_D_mostCuts 103 = .ok (.ireturn, 1) := by decide +kernel
abbrev b_D_reckonGiven : ByteArray := prog_1_method_56_code
def y_D_reckonGiven : MethodName := ⟨R_D, "reckonGiven", "(II)V"⟩
theorem mc_D_reckonGiven : Cond.code y_D_reckonGiven b_D_reckonGiven 7 none ∈ lw_use := g_use (List.mem_of_getElem? (i := 426) (by decide +kernel)) rfl
theorem d_D_reckonGiven_0 : decode b_D_reckonGiven 0 = .ok (.aload_n 0, 1) := by decide +kernel
theorem d_D_reckonGiven_1 : decode b_D_reckonGiven 1 = .ok (.iload_n 2, 1) := by decide +kernel
theorem d_D_reckonGiven_2 : decode b_D_reckonGiven 2 = .ok (.invokevirtual 161, 3) := by decide +kernel
theorem d_D_reckonGiven_5 : decode b_D_reckonGiven 5 = .ok (.iload_n 1, 1) := by decide +kernel
theorem d_D_reckonGiven_6 : decode b_D_reckonGiven 6 = .ok (.invokestatic 98, 3) := by decide +kernel
theorem d_D_reckonGiven_9 : decode b_D_reckonGiven 9 = .ok (.iconst (-1), 1) := by decide +kernel
theorem d_D_reckonGiven_10 : decode b_D_reckonGiven 10 = .ok (.ixor, 1) := by decide +kernel
theorem d_D_reckonGiven_11 : decode b_D_reckonGiven 11 = .ok (.iand, 1) := by decide +kernel
theorem d_D_reckonGiven_12 : decode b_D_reckonGiven 12 = .ok (.istore_n 3, 1) := by decide +kernel
theorem d_D_reckonGiven_13 : decode b_D_reckonGiven 13 = .ok (.aload_n 0, 1) := by decide +kernel
theorem d_D_reckonGiven_14 : decode b_D_reckonGiven 14 = .ok (.iload_n 1, 1) := by decide +kernel
theorem d_D_reckonGiven_15 : decode b_D_reckonGiven 15 = .ok (.aload_n 0, 1) := by decide +kernel
theorem d_D_reckonGiven_16 : decode b_D_reckonGiven 16 = .ok (.getfield 29, 3) := by decide +kernel
theorem d_D_reckonGiven_19 : decode b_D_reckonGiven 19 = .ok (.getfield 117, 3) := by decide +kernel
theorem d_D_reckonGiven_22 : decode b_D_reckonGiven 22 = .ok (.iload_n 1, 1) := by decide +kernel
theorem d_D_reckonGiven_23 : decode b_D_reckonGiven 23 = .ok (.iaload, 1) := by decide +kernel
theorem d_D_reckonGiven_24 : decode b_D_reckonGiven 24 = .ok (.invokevirtual 126, 3) := by decide +kernel
theorem d_D_reckonGiven_27 : decode b_D_reckonGiven 27 = .ok (.istore 4, 2) := by decide +kernel
theorem d_D_reckonGiven_29 : decode b_D_reckonGiven 29 = .ok (.iconst 0, 1) := by decide +kernel
theorem d_D_reckonGiven_30 : decode b_D_reckonGiven 30 = .ok (.istore 5, 2) := by decide +kernel
theorem d_D_reckonGiven_32 : decode b_D_reckonGiven 32 = .ok (.iload 5, 2) := by decide +kernel
theorem d_D_reckonGiven_34 : decode b_D_reckonGiven 34 = .ok (.aload_n 0, 1) := by decide +kernel
theorem d_D_reckonGiven_35 : decode b_D_reckonGiven 35 = .ok (.getfield 46, 3) := by decide +kernel
theorem d_D_reckonGiven_38 : decode b_D_reckonGiven 38 = .ok (.arraylength, 1) := by decide +kernel
theorem d_D_reckonGiven_39 : decode b_D_reckonGiven 39 = .ok (.if_icmp .ge 43, 3) := by decide +kernel
theorem d_D_reckonGiven_42 : decode b_D_reckonGiven 42 = .ok (.iload_n 2, 1) := by decide +kernel
theorem d_D_reckonGiven_43 : decode b_D_reckonGiven 43 = .ok (.iload 4, 2) := by decide +kernel
theorem d_D_reckonGiven_45 : decode b_D_reckonGiven 45 = .ok (.iload 5, 2) := by decide +kernel
theorem d_D_reckonGiven_47 : decode b_D_reckonGiven 47 = .ok (.iadd, 1) := by decide +kernel
theorem d_D_reckonGiven_48 : decode b_D_reckonGiven 48 = .ok (.if_icmp .le 10, 3) := by decide +kernel
theorem d_D_reckonGiven_51 : decode b_D_reckonGiven 51 = .ok (.iload_n 1, 1) := by decide +kernel
theorem d_D_reckonGiven_52 : decode b_D_reckonGiven 52 = .ok (.invokestatic 98, 3) := by decide +kernel
theorem d_D_reckonGiven_55 : decode b_D_reckonGiven 55 = .ok (.goto 4, 3) := by decide +kernel
theorem d_D_reckonGiven_58 : decode b_D_reckonGiven 58 = .ok (.iconst 0, 1) := by decide +kernel
theorem d_D_reckonGiven_59 : decode b_D_reckonGiven 59 = .ok (.istore 6, 2) := by decide +kernel
theorem d_D_reckonGiven_61 : decode b_D_reckonGiven 61 = .ok (.aload_n 0, 1) := by decide +kernel
theorem d_D_reckonGiven_62 : decode b_D_reckonGiven 62 = .ok (.getfield 46, 3) := by decide +kernel
theorem d_D_reckonGiven_65 : decode b_D_reckonGiven 65 = .ok (.iload 5, 2) := by decide +kernel
theorem d_D_reckonGiven_67 : decode b_D_reckonGiven 67 = .ok (.aload_n 0, 1) := by decide +kernel
theorem d_D_reckonGiven_68 : decode b_D_reckonGiven 68 = .ok (.iload_n 3, 1) := by decide +kernel
theorem d_D_reckonGiven_69 : decode b_D_reckonGiven 69 = .ok (.iload 6, 2) := by decide +kernel
theorem d_D_reckonGiven_71 : decode b_D_reckonGiven 71 = .ok (.ior, 1) := by decide +kernel
theorem d_D_reckonGiven_72 : decode b_D_reckonGiven 72 = .ok (.invokevirtual 144, 3) := by decide +kernel
theorem d_D_reckonGiven_75 : decode b_D_reckonGiven 75 = .ok (.iastore, 1) := by decide +kernel
theorem d_D_reckonGiven_76 : decode b_D_reckonGiven 76 = .ok (.iinc 5 1, 3) := by decide +kernel
theorem d_D_reckonGiven_79 : decode b_D_reckonGiven 79 = .ok (.goto (-47), 3) := by decide +kernel
theorem d_D_reckonGiven_82 : decode b_D_reckonGiven 82 = .ok (.return_, 1) := by decide +kernel
abbrev b_D_leftOver : ByteArray := prog_1_method_57_code
def y_D_leftOver : MethodName := ⟨R_D, "leftOver", "(III)I"⟩
theorem mc_D_leftOver : Cond.code y_D_leftOver b_D_leftOver 5 (Option.some .int) ∈ lw_use := g_use (List.mem_of_getElem? (i := 434) (by decide +kernel)) rfl
theorem d_D_leftOver_0 : decode b_D_leftOver 0 = .ok (.aload_n 0, 1) := by decide +kernel
theorem d_D_leftOver_1 : decode b_D_leftOver 1 = .ok (.getfield 46, 3) := by decide +kernel
theorem d_D_leftOver_4 : decode b_D_leftOver 4 = .ok (.iload_n 2, 1) := by decide +kernel
theorem d_D_leftOver_5 : decode b_D_leftOver 5 = .ok (.iload_n 3, 1) := by decide +kernel
theorem d_D_leftOver_6 : decode b_D_leftOver 6 = .ok (.iadd, 1) := by decide +kernel
theorem d_D_leftOver_7 : decode b_D_leftOver 7 = .ok (.iaload, 1) := by decide +kernel
theorem d_D_leftOver_8 : decode b_D_leftOver 8 = .ok (.iload_n 1, 1) := by decide +kernel
theorem d_D_leftOver_9 : decode b_D_leftOver 9 = .ok (.invokestatic 150, 3) := by decide +kernel
theorem d_D_leftOver_12 : decode b_D_leftOver 12 = .ok (.istore 4, 2) := by decide +kernel
theorem d_D_leftOver_14 : decode b_D_leftOver 14 = .ok (.iload 4, 2) := by decide +kernel
theorem d_D_leftOver_16 : decode b_D_leftOver 16 = .ok (.ifCond .eq 7, 3) := by decide +kernel
theorem d_D_leftOver_19 : decode b_D_leftOver 19 = .ok (.iconst 0, 1) := by decide +kernel
theorem d_D_leftOver_20 : decode b_D_leftOver 20 = .ok (.goto 9, 3) := by decide +kernel
theorem d_D_leftOver_23 : decode b_D_leftOver 23 = .ok (.aload_n 0, 1) := by decide +kernel
theorem d_D_leftOver_24 : decode b_D_leftOver 24 = .ok (.getfield 20, 3) := by decide +kernel
theorem d_D_leftOver_27 : decode b_D_leftOver 27 = .ok (.iload_n 1, 1) := by decide +kernel
theorem d_D_leftOver_28 : decode b_D_leftOver 28 = .ok (.iaload, 1) := by decide +kernel
theorem d_D_leftOver_29 : decode b_D_leftOver 29 = .ok (.iload_n 2, 1) := by decide +kernel
theorem d_D_leftOver_30 : decode b_D_leftOver 30 = .ok (.isub, 1) := by decide +kernel
theorem d_D_leftOver_31 : decode b_D_leftOver 31 = .ok (.ireturn, 1) := by decide +kernel
abbrev b_D_isContent : ByteArray := prog_1_method_58_code
def y_D_isContent : MethodName := ⟨R_D, "isContent", "(III)Z"⟩
theorem mc_D_isContent : Cond.code y_D_isContent b_D_isContent 6 (Option.some .boolean) ∈ lw_use := g_use (List.mem_of_getElem? (i := 430) (by decide +kernel)) rfl
theorem d_D_isContent_0 : decode b_D_isContent 0 = .ok (.aload_n 0, 1) := by decide +kernel
theorem d_D_isContent_1 : decode b_D_isContent 1 = .ok (.iload_n 1, 1) := by decide +kernel
theorem d_D_isContent_2 : decode b_D_isContent 2 = .ok (.iload_n 2, 1) := by decide +kernel
theorem d_D_isContent_3 : decode b_D_isContent 3 = .ok (.iload_n 3, 1) := by decide +kernel
theorem d_D_isContent_4 : decode b_D_isContent 4 = .ok (.invokevirtual 242, 3) := by decide +kernel
theorem d_D_isContent_7 : decode b_D_isContent 7 = .ok (.istore 4, 2) := by decide +kernel
theorem d_D_isContent_9 : decode b_D_isContent 9 = .ok (.iconst 0, 1) := by decide +kernel
theorem d_D_isContent_10 : decode b_D_isContent 10 = .ok (.istore 5, 2) := by decide +kernel
theorem d_D_isContent_12 : decode b_D_isContent 12 = .ok (.iload 5, 2) := by decide +kernel
theorem d_D_isContent_14 : decode b_D_isContent 14 = .ok (.iconst 3, 1) := by decide +kernel
theorem d_D_isContent_15 : decode b_D_isContent 15 = .ok (.if_icmp .gt 24, 3) := by decide +kernel
theorem d_D_isContent_18 : decode b_D_isContent 18 = .ok (.aload_n 0, 1) := by decide +kernel
theorem d_D_isContent_19 : decode b_D_isContent 19 = .ok (.iload_n 1, 1) := by decide +kernel
theorem d_D_isContent_20 : decode b_D_isContent 20 = .ok (.iload 5, 2) := by decide +kernel
theorem d_D_isContent_22 : decode b_D_isContent 22 = .ok (.iload_n 3, 1) := by decide +kernel
theorem d_D_isContent_23 : decode b_D_isContent 23 = .ok (.invokevirtual 242, 3) := by decide +kernel
theorem d_D_isContent_26 : decode b_D_isContent 26 = .ok (.iload 4, 2) := by decide +kernel
theorem d_D_isContent_28 : decode b_D_isContent 28 = .ok (.if_icmp .le 5, 3) := by decide +kernel
theorem d_D_isContent_31 : decode b_D_isContent 31 = .ok (.iconst 0, 1) := by decide +kernel
theorem d_D_isContent_32 : decode b_D_isContent 32 = .ok (.ireturn, 1) := by decide +kernel
theorem d_D_isContent_33 : decode b_D_isContent 33 = .ok (.iinc 5 1, 3) := by decide +kernel
theorem d_D_isContent_36 : decode b_D_isContent 36 = .ok (.goto (-24), 3) := by decide +kernel
theorem d_D_isContent_39 : decode b_D_isContent 39 = .ok (.iconst 1, 1) := by decide +kernel
theorem d_D_isContent_40 : decode b_D_isContent 40 = .ok (.ireturn, 1) := by decide +kernel
abbrev b_D_holdsThrough : ByteArray := prog_1_method_59_code
def y_D_holdsThrough : MethodName := ⟨R_D, "holdsThrough", "(IIII)Z"⟩
theorem mc_D_holdsThrough : Cond.code y_D_holdsThrough b_D_holdsThrough 8 (Option.some .boolean) ∈ lw_use := g_use (List.mem_of_getElem? (i := 442) (by decide +kernel)) rfl
theorem d_D_holdsThrough_0 : decode b_D_holdsThrough 0 = .ok (.aload_n 0, 1) := by decide +kernel
theorem d_D_holdsThrough_1 : decode b_D_holdsThrough 1 = .ok (.getfield 29, 3) := by decide +kernel
theorem d_D_holdsThrough_4 : decode b_D_holdsThrough 4 = .ok (.getfield 117, 3) := by decide +kernel
theorem d_D_holdsThrough_7 : decode b_D_holdsThrough 7 = .ok (.iload_n 1, 1) := by decide +kernel
theorem d_D_holdsThrough_8 : decode b_D_holdsThrough 8 = .ok (.iaload, 1) := by decide +kernel
theorem d_D_holdsThrough_9 : decode b_D_holdsThrough 9 = .ok (.istore 5, 2) := by decide +kernel
theorem d_D_holdsThrough_11 : decode b_D_holdsThrough 11 = .ok (.iconst 0, 1) := by decide +kernel
theorem d_D_holdsThrough_12 : decode b_D_holdsThrough 12 = .ok (.istore 6, 2) := by decide +kernel
theorem d_D_holdsThrough_14 : decode b_D_holdsThrough 14 = .ok (.iload 6, 2) := by decide +kernel
theorem d_D_holdsThrough_16 : decode b_D_holdsThrough 16 = .ok (.iconst 3, 1) := by decide +kernel
theorem d_D_holdsThrough_17 : decode b_D_holdsThrough 17 = .ok (.if_icmp .ge 51, 3) := by decide +kernel
theorem d_D_holdsThrough_20 : decode b_D_holdsThrough 20 = .ok (.iload 4, 2) := by decide +kernel
theorem d_D_holdsThrough_22 : decode b_D_holdsThrough 22 = .ok (.iload 6, 2) := by decide +kernel
theorem d_D_holdsThrough_24 : decode b_D_holdsThrough 24 = .ok (.invokestatic 150, 3) := by decide +kernel
theorem d_D_holdsThrough_27 : decode b_D_holdsThrough 27 = .ok (.ifCond .eq 7, 3) := by decide +kernel
theorem d_D_holdsThrough_30 : decode b_D_holdsThrough 30 = .ok (.iload_n 2, 1) := by decide +kernel
theorem d_D_holdsThrough_31 : decode b_D_holdsThrough 31 = .ok (.goto 4, 3) := by decide +kernel
theorem d_D_holdsThrough_34 : decode b_D_holdsThrough 34 = .ok (.iload_n 3, 1) := by decide +kernel
theorem d_D_holdsThrough_35 : decode b_D_holdsThrough 35 = .ok (.istore 7, 2) := by decide +kernel
theorem d_D_holdsThrough_37 : decode b_D_holdsThrough 37 = .ok (.iload 7, 2) := by decide +kernel
theorem d_D_holdsThrough_39 : decode b_D_holdsThrough 39 = .ok (.aload_n 0, 1) := by decide +kernel
theorem d_D_holdsThrough_40 : decode b_D_holdsThrough 40 = .ok (.iload_n 1, 1) := by decide +kernel
theorem d_D_holdsThrough_41 : decode b_D_holdsThrough 41 = .ok (.iload 5, 2) := by decide +kernel
theorem d_D_holdsThrough_43 : decode b_D_holdsThrough 43 = .ok (.invokevirtual 126, 3) := by decide +kernel
theorem d_D_holdsThrough_46 : decode b_D_holdsThrough 46 = .ok (.if_icmp .le 5, 3) := by decide +kernel
theorem d_D_holdsThrough_49 : decode b_D_holdsThrough 49 = .ok (.iconst 0, 1) := by decide +kernel
theorem d_D_holdsThrough_50 : decode b_D_holdsThrough 50 = .ok (.ireturn, 1) := by decide +kernel
theorem d_D_holdsThrough_51 : decode b_D_holdsThrough 51 = .ok (.aload_n 0, 1) := by decide +kernel
theorem d_D_holdsThrough_52 : decode b_D_holdsThrough 52 = .ok (.iload_n 1, 1) := by decide +kernel
theorem d_D_holdsThrough_53 : decode b_D_holdsThrough 53 = .ok (.iload 5, 2) := by decide +kernel
theorem d_D_holdsThrough_55 : decode b_D_holdsThrough 55 = .ok (.iload 7, 2) := by decide +kernel
theorem d_D_holdsThrough_57 : decode b_D_holdsThrough 57 = .ok (.invokevirtual 232, 3) := by decide +kernel
theorem d_D_holdsThrough_60 : decode b_D_holdsThrough 60 = .ok (.istore 5, 2) := by decide +kernel
theorem d_D_holdsThrough_62 : decode b_D_holdsThrough 62 = .ok (.iinc 6 1, 3) := by decide +kernel
theorem d_D_holdsThrough_65 : decode b_D_holdsThrough 65 = .ok (.goto (-51), 3) := by decide +kernel
theorem d_D_holdsThrough_68 : decode b_D_holdsThrough 68 = .ok (.iconst 1, 1) := by decide +kernel
theorem d_D_holdsThrough_69 : decode b_D_holdsThrough 69 = .ok (.ireturn, 1) := by decide +kernel
abbrev b_D_chanceOf : ByteArray := prog_1_method_60_code
def y_D_chanceOf : MethodName := ⟨R_D, "chanceOf", "(II)I"⟩
theorem mc_D_chanceOf : Cond.code y_D_chanceOf b_D_chanceOf 4 (Option.some .int) ∈ lw_use := g_use (List.mem_of_getElem? (i := 445) (by decide +kernel)) rfl
theorem d_D_chanceOf_0 : decode b_D_chanceOf 0 = .ok (.iconst 1, 1) := by decide +kernel
theorem d_D_chanceOf_1 : decode b_D_chanceOf 1 = .ok (.istore_n 2, 1) := by decide +kernel
theorem d_D_chanceOf_2 : decode b_D_chanceOf 2 = .ok (.iconst 0, 1) := by decide +kernel
theorem d_D_chanceOf_3 : decode b_D_chanceOf 3 = .ok (.istore_n 3, 1) := by decide +kernel
theorem d_D_chanceOf_4 : decode b_D_chanceOf 4 = .ok (.iload_n 3, 1) := by decide +kernel
theorem d_D_chanceOf_5 : decode b_D_chanceOf 5 = .ok (.iconst 3, 1) := by decide +kernel
theorem d_D_chanceOf_6 : decode b_D_chanceOf 6 = .ok (.if_icmp .ge 28, 3) := by decide +kernel
theorem d_D_chanceOf_9 : decode b_D_chanceOf 9 = .ok (.iload_n 2, 1) := by decide +kernel
theorem d_D_chanceOf_10 : decode b_D_chanceOf 10 = .ok (.iload_n 0, 1) := by decide +kernel
theorem d_D_chanceOf_11 : decode b_D_chanceOf 11 = .ok (.iload_n 3, 1) := by decide +kernel
theorem d_D_chanceOf_12 : decode b_D_chanceOf 12 = .ok (.invokestatic 150, 3) := by decide +kernel
theorem d_D_chanceOf_15 : decode b_D_chanceOf 15 = .ok (.ifCond .eq 7, 3) := by decide +kernel
theorem d_D_chanceOf_18 : decode b_D_chanceOf 18 = .ok (.iload_n 1, 1) := by decide +kernel
theorem d_D_chanceOf_19 : decode b_D_chanceOf 19 = .ok (.goto 7, 3) := by decide +kernel
theorem d_D_chanceOf_22 : decode b_D_chanceOf 22 = .ok (.bipush 10, 2) := by decide +kernel
theorem d_D_chanceOf_24 : decode b_D_chanceOf 24 = .ok (.iload_n 1, 1) := by decide +kernel
theorem d_D_chanceOf_25 : decode b_D_chanceOf 25 = .ok (.isub, 1) := by decide +kernel
theorem d_D_chanceOf_26 : decode b_D_chanceOf 26 = .ok (.imul, 1) := by decide +kernel
theorem d_D_chanceOf_27 : decode b_D_chanceOf 27 = .ok (.istore_n 2, 1) := by decide +kernel
theorem d_D_chanceOf_28 : decode b_D_chanceOf 28 = .ok (.iinc 3 1, 3) := by decide +kernel
theorem d_D_chanceOf_31 : decode b_D_chanceOf 31 = .ok (.goto (-27), 3) := by decide +kernel
theorem d_D_chanceOf_34 : decode b_D_chanceOf 34 = .ok (.iload_n 2, 1) := by decide +kernel
theorem d_D_chanceOf_35 : decode b_D_chanceOf 35 = .ok (.ireturn, 1) := by decide +kernel
abbrev b_D_inLeastTerms : ByteArray := prog_1_method_61_code
def y_D_inLeastTerms : MethodName := ⟨R_D, "inLeastTerms", "(IIZ)I"⟩
theorem mc_D_inLeastTerms : Cond.code y_D_inLeastTerms b_D_inLeastTerms 5 (Option.some .int) ∈ lw_use := g_use (List.mem_of_getElem? (i := 415) (by decide +kernel)) rfl
theorem d_D_inLeastTerms_0 : decode b_D_inLeastTerms 0 = .ok (.iload_n 0, 1) := by decide +kernel
theorem d_D_inLeastTerms_1 : decode b_D_inLeastTerms 1 = .ok (.iload_n 1, 1) := by decide +kernel
theorem d_D_inLeastTerms_2 : decode b_D_inLeastTerms 2 = .ok (.invokestatic 245, 3) := by decide +kernel
theorem d_D_inLeastTerms_5 : decode b_D_inLeastTerms 5 = .ok (.istore_n 3, 1) := by decide +kernel
theorem d_D_inLeastTerms_6 : decode b_D_inLeastTerms 6 = .ok (.iload_n 2, 1) := by decide +kernel
theorem d_D_inLeastTerms_7 : decode b_D_inLeastTerms 7 = .ok (.ifCond .eq 7, 3) := by decide +kernel
theorem d_D_inLeastTerms_10 : decode b_D_inLeastTerms 10 = .ok (.iload_n 0, 1) := by decide +kernel
theorem d_D_inLeastTerms_11 : decode b_D_inLeastTerms 11 = .ok (.goto 4, 3) := by decide +kernel
theorem d_D_inLeastTerms_14 : decode b_D_inLeastTerms 14 = .ok (.iload_n 1, 1) := by decide +kernel
theorem d_D_inLeastTerms_15 : decode b_D_inLeastTerms 15 = .ok (.istore 4, 2) := by decide +kernel
theorem d_D_inLeastTerms_17 : decode b_D_inLeastTerms 17 = .ok (.iload_n 3, 1) := by decide +kernel
theorem d_D_inLeastTerms_18 : decode b_D_inLeastTerms 18 = .ok (.ifCond .ne 8, 3) := by decide +kernel
theorem d_D_inLeastTerms_21 : decode b_D_inLeastTerms 21 = .ok (.iload 4, 2) := by decide +kernel
theorem d_D_inLeastTerms_23 : decode b_D_inLeastTerms 23 = .ok (.goto 7, 3) := by decide +kernel
theorem d_D_inLeastTerms_26 : decode b_D_inLeastTerms 26 = .ok (.iload 4, 2) := by decide +kernel
theorem d_D_inLeastTerms_28 : decode b_D_inLeastTerms 28 = .ok (.iload_n 3, 1) := by decide +kernel
theorem d_D_inLeastTerms_29 : decode b_D_inLeastTerms 29 = .ok (.idiv, 1) := by decide +kernel
theorem d_D_inLeastTerms_30 : decode b_D_inLeastTerms 30 = .ok (.ireturn, 1) := by decide +kernel
abbrev b_D_commonDivisor : ByteArray := prog_1_method_62_code
def y_D_commonDivisor : MethodName := ⟨R_D, "commonDivisor", "(II)I"⟩
theorem mc_D_commonDivisor : Cond.code y_D_commonDivisor b_D_commonDivisor 6 (Option.some .int) ∈ lw_use := g_use (List.mem_of_getElem? (i := 418) (by decide +kernel)) rfl
theorem d_D_commonDivisor_0 : decode b_D_commonDivisor 0 = .ok (.iload_n 0, 1) := by decide +kernel
theorem d_D_commonDivisor_1 : decode b_D_commonDivisor 1 = .ok (.istore_n 2, 1) := by decide +kernel
theorem d_D_commonDivisor_2 : decode b_D_commonDivisor 2 = .ok (.iload_n 1, 1) := by decide +kernel
theorem d_D_commonDivisor_3 : decode b_D_commonDivisor 3 = .ok (.istore_n 3, 1) := by decide +kernel
theorem d_D_commonDivisor_4 : decode b_D_commonDivisor 4 = .ok (.iconst 0, 1) := by decide +kernel
theorem d_D_commonDivisor_5 : decode b_D_commonDivisor 5 = .ok (.istore 4, 2) := by decide +kernel
theorem d_D_commonDivisor_7 : decode b_D_commonDivisor 7 = .ok (.iload 4, 2) := by decide +kernel
theorem d_D_commonDivisor_9 : decode b_D_commonDivisor 9 = .ok (.bipush 64, 2) := by decide +kernel
theorem d_D_commonDivisor_11 : decode b_D_commonDivisor 11 = .ok (.if_icmp .ge 23, 3) := by decide +kernel
theorem d_D_commonDivisor_14 : decode b_D_commonDivisor 14 = .ok (.iload_n 3, 1) := by decide +kernel
theorem d_D_commonDivisor_15 : decode b_D_commonDivisor 15 = .ok (.ifCond .eq 19, 3) := by decide +kernel
theorem d_D_commonDivisor_18 : decode b_D_commonDivisor 18 = .ok (.iload_n 2, 1) := by decide +kernel
theorem d_D_commonDivisor_19 : decode b_D_commonDivisor 19 = .ok (.iload_n 3, 1) := by decide +kernel
theorem d_D_commonDivisor_20 : decode b_D_commonDivisor 20 = .ok (.irem, 1) := by decide +kernel
theorem d_D_commonDivisor_21 : decode b_D_commonDivisor 21 = .ok (.istore 5, 2) := by decide +kernel
theorem d_D_commonDivisor_23 : decode b_D_commonDivisor 23 = .ok (.iload_n 3, 1) := by decide +kernel
theorem d_D_commonDivisor_24 : decode b_D_commonDivisor 24 = .ok (.istore_n 2, 1) := by decide +kernel
theorem d_D_commonDivisor_25 : decode b_D_commonDivisor 25 = .ok (.iload 5, 2) := by decide +kernel
theorem d_D_commonDivisor_27 : decode b_D_commonDivisor 27 = .ok (.istore_n 3, 1) := by decide +kernel
theorem d_D_commonDivisor_28 : decode b_D_commonDivisor 28 = .ok (.iinc 4 1, 3) := by decide +kernel
theorem d_D_commonDivisor_31 : decode b_D_commonDivisor 31 = .ok (.goto (-24), 3) := by decide +kernel
theorem d_D_commonDivisor_34 : decode b_D_commonDivisor 34 = .ok (.iload_n 2, 1) := by decide +kernel
theorem d_D_commonDivisor_35 : decode b_D_commonDivisor 35 = .ok (.ireturn, 1) := by decide +kernel
abbrev b_H_init : ByteArray := prog_2_method_1_code
def y_H_init : MethodName := ⟨R_H, "<init>", "()V"⟩
theorem mc_H_init : Cond.code y_H_init b_H_init 1 none ∈ lw_use := g_use (List.mem_of_getElem? (i := 87) (by decide +kernel)) rfl
theorem d_H_init_0 : decode b_H_init 0 = .ok (.aload_n 0, 1) := by decide +kernel
theorem d_H_init_1 : decode b_H_init 1 = .ok (.invokespecial 3, 3) := by decide +kernel
theorem d_H_init_4 : decode b_H_init 4 = .ok (.aload_n 0, 1) := by decide +kernel
theorem d_H_init_5 : decode b_H_init 5 = .ok (.bipush 6, 2) := by decide +kernel
theorem d_H_init_7 : decode b_H_init 7 = .ok (.newarray .int, 2) := by decide +kernel
theorem d_H_init_9 : decode b_H_init 9 = .ok (.putfield 9, 3) := by decide +kernel
theorem d_H_init_12 : decode b_H_init 12 = .ok (.aload_n 0, 1) := by decide +kernel
theorem d_H_init_13 : decode b_H_init 13 = .ok (.bipush 6, 2) := by decide +kernel
theorem d_H_init_15 : decode b_H_init 15 = .ok (.newarray .int, 2) := by decide +kernel
theorem d_H_init_17 : decode b_H_init 17 = .ok (.putfield 15, 3) := by decide +kernel
theorem d_H_init_20 : decode b_H_init 20 = .ok (.aload_n 0, 1) := by decide +kernel
theorem d_H_init_21 : decode b_H_init 21 = .ok (.bipush 6, 2) := by decide +kernel
theorem d_H_init_23 : decode b_H_init 23 = .ok (.newarray .int, 2) := by decide +kernel
theorem d_H_init_25 : decode b_H_init 25 = .ok (.putfield 18, 3) := by decide +kernel
theorem d_H_init_28 : decode b_H_init 28 = .ok (.aload_n 0, 1) := by decide +kernel
theorem d_H_init_29 : decode b_H_init 29 = .ok (.bipush 6, 2) := by decide +kernel
theorem d_H_init_31 : decode b_H_init 31 = .ok (.bipush 6, 2) := by decide +kernel
theorem d_H_init_33 : decode b_H_init 33 = .ok (.multianewarray 21 2, 4) := by decide +kernel
theorem d_H_init_37 : decode b_H_init 37 = .ok (.putfield 23, 3) := by decide +kernel
theorem d_H_init_40 : decode b_H_init 40 = .ok (.return_, 1) := by decide +kernel
abbrev b_H_clear : ByteArray := prog_2_method_2_code
def y_H_clear : MethodName := ⟨R_H, "clear", "()V"⟩
theorem mc_H_clear : Cond.code y_H_clear b_H_clear 2 none ∈ lw_use := g_use (List.mem_of_getElem? (i := 225) (by decide +kernel)) rfl
theorem d_H_clear_0 : decode b_H_clear 0 = .ok (.aload_n 0, 1) := by decide +kernel
theorem d_H_clear_1 : decode b_H_clear 1 = .ok (.getfield 9, 3) := by decide +kernel
theorem d_H_clear_4 : decode b_H_clear 4 = .ok (.iconst 0, 1) := by decide +kernel
theorem d_H_clear_5 : decode b_H_clear 5 = .ok (.invokestatic 26, 3) := by decide +kernel
theorem d_H_clear_8 : decode b_H_clear 8 = .ok (.aload_n 0, 1) := by decide +kernel
theorem d_H_clear_9 : decode b_H_clear 9 = .ok (.getfield 15, 3) := by decide +kernel
theorem d_H_clear_12 : decode b_H_clear 12 = .ok (.iconst 0, 1) := by decide +kernel
theorem d_H_clear_13 : decode b_H_clear 13 = .ok (.invokestatic 26, 3) := by decide +kernel
theorem d_H_clear_16 : decode b_H_clear 16 = .ok (.aload_n 0, 1) := by decide +kernel
theorem d_H_clear_17 : decode b_H_clear 17 = .ok (.getfield 18, 3) := by decide +kernel
theorem d_H_clear_20 : decode b_H_clear 20 = .ok (.iconst 0, 1) := by decide +kernel
theorem d_H_clear_21 : decode b_H_clear 21 = .ok (.invokestatic 26, 3) := by decide +kernel
theorem d_H_clear_24 : decode b_H_clear 24 = .ok (.iconst 0, 1) := by decide +kernel
theorem d_H_clear_25 : decode b_H_clear 25 = .ok (.istore_n 1, 1) := by decide +kernel
theorem d_H_clear_26 : decode b_H_clear 26 = .ok (.iload_n 1, 1) := by decide +kernel
theorem d_H_clear_27 : decode b_H_clear 27 = .ok (.bipush 6, 2) := by decide +kernel
theorem d_H_clear_29 : decode b_H_clear 29 = .ok (.if_icmp .ge 19, 3) := by decide +kernel
theorem d_H_clear_32 : decode b_H_clear 32 = .ok (.aload_n 0, 1) := by decide +kernel
theorem d_H_clear_33 : decode b_H_clear 33 = .ok (.getfield 23, 3) := by decide +kernel
theorem d_H_clear_36 : decode b_H_clear 36 = .ok (.iload_n 1, 1) := by decide +kernel
theorem d_H_clear_37 : decode b_H_clear 37 = .ok (.aaload, 1) := by decide +kernel
theorem d_H_clear_38 : decode b_H_clear 38 = .ok (.iconst 0, 1) := by decide +kernel
theorem d_H_clear_39 : decode b_H_clear 39 = .ok (.invokestatic 26, 3) := by decide +kernel
theorem d_H_clear_42 : decode b_H_clear 42 = .ok (.iinc 1 1, 3) := by decide +kernel
theorem d_H_clear_45 : decode b_H_clear 45 = .ok (.goto (-19), 3) := by decide +kernel
theorem d_H_clear_48 : decode b_H_clear 48 = .ok (.aload_n 0, 1) := by decide +kernel
theorem d_H_clear_49 : decode b_H_clear 49 = .ok (.iconst 0, 1) := by decide +kernel
theorem d_H_clear_50 : decode b_H_clear 50 = .ok (.putfield 32, 3) := by decide +kernel
theorem d_H_clear_53 : decode b_H_clear 53 = .ok (.aload_n 0, 1) := by decide +kernel
theorem d_H_clear_54 : decode b_H_clear 54 = .ok (.iconst 0, 1) := by decide +kernel
theorem d_H_clear_55 : decode b_H_clear 55 = .ok (.putfield 36, 3) := by decide +kernel
theorem d_H_clear_58 : decode b_H_clear 58 = .ok (.aload_n 0, 1) := by decide +kernel
theorem d_H_clear_59 : decode b_H_clear 59 = .ok (.iconst 0, 1) := by decide +kernel
theorem d_H_clear_60 : decode b_H_clear 60 = .ok (.putfield 39, 3) := by decide +kernel
theorem d_H_clear_63 : decode b_H_clear 63 = .ok (.return_, 1) := by decide +kernel
abbrev b_H_takeOver : ByteArray := prog_2_method_3_code
def y_H_takeOver : MethodName := ⟨R_H, "takeOver", "(LDykeFarms$Held;)V"⟩
theorem mc_H_takeOver : Cond.code y_H_takeOver b_H_takeOver 3 none ∈ lw_use := g_use (List.mem_of_getElem? (i := 284) (by decide +kernel)) rfl
theorem d_H_takeOver_0 : decode b_H_takeOver 0 = .ok (.aload_n 1, 1) := by decide +kernel
theorem d_H_takeOver_1 : decode b_H_takeOver 1 = .ok (.getfield 9, 3) := by decide +kernel
theorem d_H_takeOver_4 : decode b_H_takeOver 4 = .ok (.aload_n 0, 1) := by decide +kernel
theorem d_H_takeOver_5 : decode b_H_takeOver 5 = .ok (.getfield 9, 3) := by decide +kernel
theorem d_H_takeOver_8 : decode b_H_takeOver 8 = .ok (.invokestatic 42, 3) := by decide +kernel
theorem d_H_takeOver_11 : decode b_H_takeOver 11 = .ok (.aload_n 1, 1) := by decide +kernel
theorem d_H_takeOver_12 : decode b_H_takeOver 12 = .ok (.getfield 15, 3) := by decide +kernel
theorem d_H_takeOver_15 : decode b_H_takeOver 15 = .ok (.aload_n 0, 1) := by decide +kernel
theorem d_H_takeOver_16 : decode b_H_takeOver 16 = .ok (.getfield 15, 3) := by decide +kernel
theorem d_H_takeOver_19 : decode b_H_takeOver 19 = .ok (.invokestatic 42, 3) := by decide +kernel
theorem d_H_takeOver_22 : decode b_H_takeOver 22 = .ok (.aload_n 1, 1) := by decide +kernel
theorem d_H_takeOver_23 : decode b_H_takeOver 23 = .ok (.getfield 18, 3) := by decide +kernel
theorem d_H_takeOver_26 : decode b_H_takeOver 26 = .ok (.aload_n 0, 1) := by decide +kernel
theorem d_H_takeOver_27 : decode b_H_takeOver 27 = .ok (.getfield 18, 3) := by decide +kernel
theorem d_H_takeOver_30 : decode b_H_takeOver 30 = .ok (.invokestatic 42, 3) := by decide +kernel
theorem d_H_takeOver_33 : decode b_H_takeOver 33 = .ok (.iconst 0, 1) := by decide +kernel
theorem d_H_takeOver_34 : decode b_H_takeOver 34 = .ok (.istore_n 2, 1) := by decide +kernel
theorem d_H_takeOver_35 : decode b_H_takeOver 35 = .ok (.iload_n 2, 1) := by decide +kernel
theorem d_H_takeOver_36 : decode b_H_takeOver 36 = .ok (.bipush 6, 2) := by decide +kernel
theorem d_H_takeOver_38 : decode b_H_takeOver 38 = .ok (.if_icmp .ge 24, 3) := by decide +kernel
theorem d_H_takeOver_41 : decode b_H_takeOver 41 = .ok (.aload_n 1, 1) := by decide +kernel
theorem d_H_takeOver_42 : decode b_H_takeOver 42 = .ok (.getfield 23, 3) := by decide +kernel
theorem d_H_takeOver_45 : decode b_H_takeOver 45 = .ok (.iload_n 2, 1) := by decide +kernel
theorem d_H_takeOver_46 : decode b_H_takeOver 46 = .ok (.aaload, 1) := by decide +kernel
theorem d_H_takeOver_47 : decode b_H_takeOver 47 = .ok (.aload_n 0, 1) := by decide +kernel
theorem d_H_takeOver_48 : decode b_H_takeOver 48 = .ok (.getfield 23, 3) := by decide +kernel
theorem d_H_takeOver_51 : decode b_H_takeOver 51 = .ok (.iload_n 2, 1) := by decide +kernel
theorem d_H_takeOver_52 : decode b_H_takeOver 52 = .ok (.aaload, 1) := by decide +kernel
theorem d_H_takeOver_53 : decode b_H_takeOver 53 = .ok (.invokestatic 42, 3) := by decide +kernel
theorem d_H_takeOver_56 : decode b_H_takeOver 56 = .ok (.iinc 2 1, 3) := by decide +kernel
theorem d_H_takeOver_59 : decode b_H_takeOver 59 = .ok (.goto (-24), 3) := by decide +kernel
theorem d_H_takeOver_62 : decode b_H_takeOver 62 = .ok (.aload_n 0, 1) := by decide +kernel
theorem d_H_takeOver_63 : decode b_H_takeOver 63 = .ok (.aload_n 1, 1) := by decide +kernel
theorem d_H_takeOver_64 : decode b_H_takeOver 64 = .ok (.getfield 32, 3) := by decide +kernel
theorem d_H_takeOver_67 : decode b_H_takeOver 67 = .ok (.putfield 32, 3) := by decide +kernel
theorem d_H_takeOver_70 : decode b_H_takeOver 70 = .ok (.aload_n 0, 1) := by decide +kernel
theorem d_H_takeOver_71 : decode b_H_takeOver 71 = .ok (.aload_n 1, 1) := by decide +kernel
theorem d_H_takeOver_72 : decode b_H_takeOver 72 = .ok (.getfield 36, 3) := by decide +kernel
theorem d_H_takeOver_75 : decode b_H_takeOver 75 = .ok (.putfield 36, 3) := by decide +kernel
theorem d_H_takeOver_78 : decode b_H_takeOver 78 = .ok (.aload_n 0, 1) := by decide +kernel
theorem d_H_takeOver_79 : decode b_H_takeOver 79 = .ok (.aload_n 1, 1) := by decide +kernel
theorem d_H_takeOver_80 : decode b_H_takeOver 80 = .ok (.getfield 39, 3) := by decide +kernel
theorem d_H_takeOver_83 : decode b_H_takeOver 83 = .ok (.putfield 39, 3) := by decide +kernel
theorem d_H_takeOver_86 : decode b_H_takeOver 86 = .ok (.return_, 1) := by decide +kernel
abbrev b_S_init : ByteArray := prog_3_method_1_code
def y_S_init : MethodName := ⟨R_S, "<init>", "()V"⟩
theorem mc_S_init : Cond.code y_S_init b_S_init 1 none ∈ lw_use := g_use (List.mem_of_getElem? (i := 71) (by decide +kernel)) rfl
theorem d_S_init_0 : decode b_S_init 0 = .ok (.aload_n 0, 1) := by decide +kernel
theorem d_S_init_1 : decode b_S_init 1 = .ok (.invokespecial 3, 3) := by decide +kernel
theorem d_S_init_4 : decode b_S_init 4 = .ok (.aload_n 0, 1) := by decide +kernel
theorem d_S_init_5 : decode b_S_init 5 = .ok (.bipush 48, 2) := by decide +kernel
theorem d_S_init_7 : decode b_S_init 7 = .ok (.newarray .int, 2) := by decide +kernel
theorem d_S_init_9 : decode b_S_init 9 = .ok (.putfield 9, 3) := by decide +kernel
theorem d_S_init_12 : decode b_S_init 12 = .ok (.return_, 1) := by decide +kernel
abbrev b_S_letterAt : ByteArray := prog_3_method_2_code
def y_S_letterAt : MethodName := ⟨R_S, "letterAt", "(I)I"⟩
theorem mc_S_letterAt : Cond.code y_S_letterAt b_S_letterAt 3 (Option.some .int) ∈ lw_use := g_use (List.mem_of_getElem? (i := 195) (by decide +kernel)) rfl
theorem d_S_letterAt_0 : decode b_S_letterAt 0 = .ok (.iload_n 1, 1) := by decide +kernel
theorem d_S_letterAt_1 : decode b_S_letterAt 1 = .ok (.ifCond .lt 24, 3) := by decide +kernel
theorem d_S_letterAt_4 : decode b_S_letterAt 4 = .ok (.iload_n 1, 1) := by decide +kernel
theorem d_S_letterAt_5 : decode b_S_letterAt 5 = .ok (.aload_n 0, 1) := by decide +kernel
theorem d_S_letterAt_6 : decode b_S_letterAt 6 = .ok (.getfield 15, 3) := by decide +kernel
theorem d_S_letterAt_9 : decode b_S_letterAt 9 = .ok (.if_icmp .ge 16, 3) := by decide +kernel
theorem d_S_letterAt_12 : decode b_S_letterAt 12 = .ok (.iload_n 1, 1) := by decide +kernel
theorem d_S_letterAt_13 : decode b_S_letterAt 13 = .ok (.aload_n 0, 1) := by decide +kernel
theorem d_S_letterAt_14 : decode b_S_letterAt 14 = .ok (.getfield 9, 3) := by decide +kernel
theorem d_S_letterAt_17 : decode b_S_letterAt 17 = .ok (.arraylength, 1) := by decide +kernel
theorem d_S_letterAt_18 : decode b_S_letterAt 18 = .ok (.if_icmp .ge 7, 3) := by decide +kernel
theorem d_S_letterAt_21 : decode b_S_letterAt 21 = .ok (.iconst 1, 1) := by decide +kernel
theorem d_S_letterAt_22 : decode b_S_letterAt 22 = .ok (.goto 4, 3) := by decide +kernel
theorem d_S_letterAt_25 : decode b_S_letterAt 25 = .ok (.iconst 0, 1) := by decide +kernel
theorem d_S_letterAt_26 : decode b_S_letterAt 26 = .ok (.istore_n 2, 1) := by decide +kernel
theorem d_S_letterAt_27 : decode b_S_letterAt 27 = .ok (.iload_n 2, 1) := by decide +kernel
theorem d_S_letterAt_28 : decode b_S_letterAt 28 = .ok (.ifCond .eq 12, 3) := by decide +kernel
theorem d_S_letterAt_31 : decode b_S_letterAt 31 = .ok (.aload_n 0, 1) := by decide +kernel
theorem d_S_letterAt_32 : decode b_S_letterAt 32 = .ok (.getfield 9, 3) := by decide +kernel
theorem d_S_letterAt_35 : decode b_S_letterAt 35 = .ok (.iload_n 1, 1) := by decide +kernel
theorem d_S_letterAt_36 : decode b_S_letterAt 36 = .ok (.iaload, 1) := by decide +kernel
theorem d_S_letterAt_37 : decode b_S_letterAt 37 = .ok (.goto 4, 3) := by decide +kernel
theorem d_S_letterAt_40 : decode b_S_letterAt 40 = .ok (.iconst (-1), 1) := by decide +kernel
theorem d_S_letterAt_41 : decode b_S_letterAt 41 = .ok (.ireturn, 1) := by decide +kernel
abbrev b_S_figureAt : ByteArray := prog_3_method_3_code
def y_S_figureAt : MethodName := ⟨R_S, "figureAt", "(I)I"⟩
theorem mc_S_figureAt : Cond.code y_S_figureAt b_S_figureAt 3 (Option.some .int) ∈ lw_use := g_use (List.mem_of_getElem? (i := 205) (by decide +kernel)) rfl
theorem d_S_figureAt_0 : decode b_S_figureAt 0 = .ok (.aload_n 0, 1) := by decide +kernel
theorem d_S_figureAt_1 : decode b_S_figureAt 1 = .ok (.iload_n 1, 1) := by decide +kernel
theorem d_S_figureAt_2 : decode b_S_figureAt 2 = .ok (.invokevirtual 19, 3) := by decide +kernel
theorem d_S_figureAt_5 : decode b_S_figureAt 5 = .ok (.istore_n 2, 1) := by decide +kernel
theorem d_S_figureAt_6 : decode b_S_figureAt 6 = .ok (.iload_n 2, 1) := by decide +kernel
theorem d_S_figureAt_7 : decode b_S_figureAt 7 = .ok (.bipush 48, 2) := by decide +kernel
theorem d_S_figureAt_9 : decode b_S_figureAt 9 = .ok (.if_icmp .lt 16, 3) := by decide +kernel
theorem d_S_figureAt_12 : decode b_S_figureAt 12 = .ok (.iload_n 2, 1) := by decide +kernel
theorem d_S_figureAt_13 : decode b_S_figureAt 13 = .ok (.bipush 57, 2) := by decide +kernel
theorem d_S_figureAt_15 : decode b_S_figureAt 15 = .ok (.if_icmp .gt 10, 3) := by decide +kernel
theorem d_S_figureAt_18 : decode b_S_figureAt 18 = .ok (.iload_n 2, 1) := by decide +kernel
theorem d_S_figureAt_19 : decode b_S_figureAt 19 = .ok (.bipush 48, 2) := by decide +kernel
theorem d_S_figureAt_21 : decode b_S_figureAt 21 = .ok (.isub, 1) := by decide +kernel
theorem d_S_figureAt_22 : decode b_S_figureAt 22 = .ok (.goto 4, 3) := by decide +kernel
theorem d_S_figureAt_25 : decode b_S_figureAt 25 = .ok (.iconst (-1), 1) := by decide +kernel
theorem d_S_figureAt_26 : decode b_S_figureAt 26 = .ok (.ireturn, 1) := by decide +kernel
abbrev b_S_rightFigures : ByteArray := prog_3_method_4_code
def y_S_rightFigures : MethodName := ⟨R_S, "rightFigures", "(I)I"⟩
theorem mc_S_rightFigures : Cond.code y_S_rightFigures b_S_rightFigures 4 (Option.some .int) ∈ lw_use := g_use (List.mem_of_getElem? (i := 199) (by decide +kernel)) rfl
theorem d_S_rightFigures_0 : decode b_S_rightFigures 0 = .ok (.iconst 0, 1) := by decide +kernel
theorem d_S_rightFigures_1 : decode b_S_rightFigures 1 = .ok (.istore_n 2, 1) := by decide +kernel
theorem d_S_rightFigures_2 : decode b_S_rightFigures 2 = .ok (.iload_n 2, 1) := by decide +kernel
theorem d_S_rightFigures_3 : decode b_S_rightFigures 3 = .ok (.getstatic 23, 3) := by decide +kernel
theorem d_S_rightFigures_6 : decode b_S_rightFigures 6 = .ok (.arraylength, 1) := by decide +kernel
theorem d_S_rightFigures_7 : decode b_S_rightFigures 7 = .ok (.if_icmp .ge 32, 3) := by decide +kernel
theorem d_S_rightFigures_10 : decode b_S_rightFigures 10 = .ok (.aload_n 0, 1) := by decide +kernel
theorem d_S_rightFigures_11 : decode b_S_rightFigures 11 = .ok (.iload_n 1, 1) := by decide +kernel
theorem d_S_rightFigures_12 : decode b_S_rightFigures 12 = .ok (.iload_n 2, 1) := by decide +kernel
theorem d_S_rightFigures_13 : decode b_S_rightFigures 13 = .ok (.iadd, 1) := by decide +kernel
theorem d_S_rightFigures_14 : decode b_S_rightFigures 14 = .ok (.invokevirtual 26, 3) := by decide +kernel
theorem d_S_rightFigures_17 : decode b_S_rightFigures 17 = .ok (.istore_n 3, 1) := by decide +kernel
theorem d_S_rightFigures_18 : decode b_S_rightFigures 18 = .ok (.iload_n 3, 1) := by decide +kernel
theorem d_S_rightFigures_19 : decode b_S_rightFigures 19 = .ok (.ifCond .lt 12, 3) := by decide +kernel
theorem d_S_rightFigures_22 : decode b_S_rightFigures 22 = .ok (.iload_n 3, 1) := by decide +kernel
theorem d_S_rightFigures_23 : decode b_S_rightFigures 23 = .ok (.getstatic 23, 3) := by decide +kernel
theorem d_S_rightFigures_26 : decode b_S_rightFigures 26 = .ok (.iload_n 2, 1) := by decide +kernel
theorem d_S_rightFigures_27 : decode b_S_rightFigures 27 = .ok (.iaload, 1) := by decide +kernel
theorem d_S_rightFigures_28 : decode b_S_rightFigures 28 = .ok (.if_icmp .le 5, 3) := by decide +kernel
theorem d_S_rightFigures_31 : decode b_S_rightFigures 31 = .ok (.iload_n 2, 1) := by decide +kernel
theorem d_S_rightFigures_32 : decode b_S_rightFigures 32 = .ok (.ireturn, 1) := by decide +kernel
theorem d_S_rightFigures_33 : decode b_S_rightFigures 33 = .ok (.iinc 2 1, 3) := by decide +kernel
theorem d_S_rightFigures_36 : decode b_S_rightFigures 36 = .ok (.goto (-34), 3) := by decide +kernel
theorem d_S_rightFigures_39 : decode b_S_rightFigures 39 = .ok (.getstatic 23, 3) := by decide +kernel
theorem d_S_rightFigures_42 : decode b_S_rightFigures 42 = .ok (.arraylength, 1) := by decide +kernel
theorem d_S_rightFigures_43 : decode b_S_rightFigures 43 = .ok (.ireturn, 1) := by decide +kernel
abbrev b_S_firstFault : ByteArray := prog_3_method_5_code
def y_S_firstFault : MethodName := ⟨R_S, "firstFault", "()I"⟩
theorem mc_S_firstFault : Cond.code y_S_firstFault b_S_firstFault 6 (Option.some .int) ∈ lw_use := g_use (List.mem_of_getElem? (i := 191) (by decide +kernel)) rfl
theorem d_S_firstFault_0 : decode b_S_firstFault 0 = .ok (.aload_n 0, 1) := by decide +kernel
theorem d_S_firstFault_1 : decode b_S_firstFault 1 = .ok (.iconst 0, 1) := by decide +kernel
theorem d_S_firstFault_2 : decode b_S_firstFault 2 = .ok (.invokevirtual 19, 3) := by decide +kernel
theorem d_S_firstFault_5 : decode b_S_firstFault 5 = .ok (.bipush 68, 2) := by decide +kernel
theorem d_S_firstFault_7 : decode b_S_firstFault 7 = .ok (.if_icmp .eq 5, 3) := by decide +kernel
theorem d_S_firstFault_10 : decode b_S_firstFault 10 = .ok (.iconst 0, 1) := by decide +kernel
theorem d_S_firstFault_11 : decode b_S_firstFault 11 = .ok (.ireturn, 1) := by decide +kernel
theorem d_S_firstFault_12 : decode b_S_firstFault 12 = .ok (.iconst 0, 1) := by decide +kernel
theorem d_S_firstFault_13 : decode b_S_firstFault 13 = .ok (.istore_n 1, 1) := by decide +kernel
theorem d_S_firstFault_14 : decode b_S_firstFault 14 = .ok (.iconst 0, 1) := by decide +kernel
theorem d_S_firstFault_15 : decode b_S_firstFault 15 = .ok (.istore_n 2, 1) := by decide +kernel
theorem d_S_firstFault_16 : decode b_S_firstFault 16 = .ok (.iconst 1, 1) := by decide +kernel
theorem d_S_firstFault_17 : decode b_S_firstFault 17 = .ok (.istore_n 3, 1) := by decide +kernel
theorem d_S_firstFault_18 : decode b_S_firstFault 18 = .ok (.iload_n 3, 1) := by decide +kernel
theorem d_S_firstFault_19 : decode b_S_firstFault 19 = .ok (.aload_n 0, 1) := by decide +kernel
theorem d_S_firstFault_20 : decode b_S_firstFault 20 = .ok (.getfield 15, 3) := by decide +kernel
theorem d_S_firstFault_23 : decode b_S_firstFault 23 = .ok (.if_icmp .ge 134, 3) := by decide +kernel
theorem d_S_firstFault_26 : decode b_S_firstFault 26 = .ok (.aload_n 0, 1) := by decide +kernel
theorem d_S_firstFault_27 : decode b_S_firstFault 27 = .ok (.iload_n 3, 1) := by decide +kernel
theorem d_S_firstFault_28 : decode b_S_firstFault 28 = .ok (.invokevirtual 19, 3) := by decide +kernel
theorem d_S_firstFault_31 : decode b_S_firstFault 31 = .ok (.istore 4, 2) := by decide +kernel
theorem d_S_firstFault_33 : decode b_S_firstFault 33 = .ok (.iload 4, 2) := by decide +kernel
theorem d_S_firstFault_35 : decode b_S_firstFault 35 = .ok (.bipush 70, 2) := by decide +kernel
theorem d_S_firstFault_37 : decode b_S_firstFault 37 = .ok (.if_icmp .ne 49, 3) := by decide +kernel
theorem d_S_firstFault_40 : decode b_S_firstFault 40 = .ok (.iload_n 1, 1) := by decide +kernel
theorem d_S_firstFault_41 : decode b_S_firstFault 41 = .ok (.bipush 6, 2) := by decide +kernel
theorem d_S_firstFault_43 : decode b_S_firstFault 43 = .ok (.if_icmp .ge 43, 3) := by decide +kernel
theorem d_S_firstFault_46 : decode b_S_firstFault 46 = .ok (.aload_n 0, 1) := by decide +kernel
theorem d_S_firstFault_47 : decode b_S_firstFault 47 = .ok (.iload_n 3, 1) := by decide +kernel
theorem d_S_firstFault_48 : decode b_S_firstFault 48 = .ok (.iconst 1, 1) := by decide +kernel
theorem d_S_firstFault_49 : decode b_S_firstFault 49 = .ok (.iadd, 1) := by decide +kernel
theorem d_S_firstFault_50 : decode b_S_firstFault 50 = .ok (.invokevirtual 29, 3) := by decide +kernel
theorem d_S_firstFault_53 : decode b_S_firstFault 53 = .ok (.istore 5, 2) := by decide +kernel
theorem d_S_firstFault_55 : decode b_S_firstFault 55 = .ok (.iload 5, 2) := by decide +kernel
theorem d_S_firstFault_57 : decode b_S_firstFault 57 = .ok (.getstatic 23, 3) := by decide +kernel
theorem d_S_firstFault_60 : decode b_S_firstFault 60 = .ok (.arraylength, 1) := by decide +kernel
theorem d_S_firstFault_61 : decode b_S_firstFault 61 = .ok (.if_icmp .ge 10, 3) := by decide +kernel
theorem d_S_firstFault_64 : decode b_S_firstFault 64 = .ok (.iload_n 3, 1) := by decide +kernel
theorem d_S_firstFault_65 : decode b_S_firstFault 65 = .ok (.iconst 1, 1) := by decide +kernel
theorem d_S_firstFault_66 : decode b_S_firstFault 66 = .ok (.iadd, 1) := by decide +kernel
theorem d_S_firstFault_67 : decode b_S_firstFault 67 = .ok (.iload 5, 2) := by decide +kernel
theorem d_S_firstFault_69 : decode b_S_firstFault 69 = .ok (.iadd, 1) := by decide +kernel
theorem d_S_firstFault_70 : decode b_S_firstFault 70 = .ok (.ireturn, 1) := by decide +kernel
theorem d_S_firstFault_71 : decode b_S_firstFault 71 = .ok (.iinc 1 1, 3) := by decide +kernel
theorem d_S_firstFault_74 : decode b_S_firstFault 74 = .ok (.iload_n 3, 1) := by decide +kernel
theorem d_S_firstFault_75 : decode b_S_firstFault 75 = .ok (.getstatic 23, 3) := by decide +kernel
theorem d_S_firstFault_78 : decode b_S_firstFault 78 = .ok (.arraylength, 1) := by decide +kernel
theorem d_S_firstFault_79 : decode b_S_firstFault 79 = .ok (.iconst 1, 1) := by decide +kernel
theorem d_S_firstFault_80 : decode b_S_firstFault 80 = .ok (.iadd, 1) := by decide +kernel
theorem d_S_firstFault_81 : decode b_S_firstFault 81 = .ok (.iadd, 1) := by decide +kernel
theorem d_S_firstFault_82 : decode b_S_firstFault 82 = .ok (.istore_n 3, 1) := by decide +kernel
theorem d_S_firstFault_83 : decode b_S_firstFault 83 = .ok (.goto 71, 3) := by decide +kernel
theorem d_S_firstFault_86 : decode b_S_firstFault 86 = .ok (.iload 4, 2) := by decide +kernel
theorem d_S_firstFault_88 : decode b_S_firstFault 88 = .ok (.bipush 73, 2) := by decide +kernel
theorem d_S_firstFault_90 : decode b_S_firstFault 90 = .ok (.if_icmp .ne 62, 3) := by decide +kernel
theorem d_S_firstFault_93 : decode b_S_firstFault 93 = .ok (.iload_n 2, 1) := by decide +kernel
theorem d_S_firstFault_94 : decode b_S_firstFault 94 = .ok (.invokestatic 32, 3) := by decide +kernel
theorem d_S_firstFault_97 : decode b_S_firstFault 97 = .ok (.iload_n 1, 1) := by decide +kernel
theorem d_S_firstFault_98 : decode b_S_firstFault 98 = .ok (.iconst 1, 1) := by decide +kernel
theorem d_S_firstFault_99 : decode b_S_firstFault 99 = .ok (.isub, 1) := by decide +kernel
theorem d_S_firstFault_100 : decode b_S_firstFault 100 = .ok (.if_icmp .ge 52, 3) := by decide +kernel
theorem d_S_firstFault_103 : decode b_S_firstFault 103 = .ok (.aload_n 0, 1) := by decide +kernel
theorem d_S_firstFault_104 : decode b_S_firstFault 104 = .ok (.iload_n 3, 1) := by decide +kernel
theorem d_S_firstFault_105 : decode b_S_firstFault 105 = .ok (.iconst 1, 1) := by decide +kernel
theorem d_S_firstFault_106 : decode b_S_firstFault 106 = .ok (.iadd, 1) := by decide +kernel
theorem d_S_firstFault_107 : decode b_S_firstFault 107 = .ok (.invokevirtual 26, 3) := by decide +kernel
theorem d_S_firstFault_110 : decode b_S_firstFault 110 = .ok (.istore 5, 2) := by decide +kernel
theorem d_S_firstFault_112 : decode b_S_firstFault 112 = .ok (.iload 5, 2) := by decide +kernel
theorem d_S_firstFault_114 : decode b_S_firstFault 114 = .ok (.ifCond .lt 20, 3) := by decide +kernel
theorem d_S_firstFault_117 : decode b_S_firstFault 117 = .ok (.iload 5, 2) := by decide +kernel
theorem d_S_firstFault_119 : decode b_S_firstFault 119 = .ok (.iload_n 1, 1) := by decide +kernel
theorem d_S_firstFault_120 : decode b_S_firstFault 120 = .ok (.iconst 1, 1) := by decide +kernel
theorem d_S_firstFault_121 : decode b_S_firstFault 121 = .ok (.isub, 1) := by decide +kernel
theorem d_S_firstFault_122 : decode b_S_firstFault 122 = .ok (.if_icmp .ge 12, 3) := by decide +kernel
theorem d_S_firstFault_125 : decode b_S_firstFault 125 = .ok (.iload_n 2, 1) := by decide +kernel
theorem d_S_firstFault_126 : decode b_S_firstFault 126 = .ok (.iload 5, 2) := by decide +kernel
theorem d_S_firstFault_128 : decode b_S_firstFault 128 = .ok (.invokestatic 37, 3) := by decide +kernel
theorem d_S_firstFault_131 : decode b_S_firstFault 131 = .ok (.ifCond .eq 7, 3) := by decide +kernel
theorem d_S_firstFault_134 : decode b_S_firstFault 134 = .ok (.iload_n 3, 1) := by decide +kernel
theorem d_S_firstFault_135 : decode b_S_firstFault 135 = .ok (.iconst 1, 1) := by decide +kernel
theorem d_S_firstFault_136 : decode b_S_firstFault 136 = .ok (.iadd, 1) := by decide +kernel
theorem d_S_firstFault_137 : decode b_S_firstFault 137 = .ok (.ireturn, 1) := by decide +kernel
theorem d_S_firstFault_138 : decode b_S_firstFault 138 = .ok (.iload_n 2, 1) := by decide +kernel
theorem d_S_firstFault_139 : decode b_S_firstFault 139 = .ok (.iload 5, 2) := by decide +kernel
theorem d_S_firstFault_141 : decode b_S_firstFault 141 = .ok (.invokestatic 41, 3) := by decide +kernel
theorem d_S_firstFault_144 : decode b_S_firstFault 144 = .ok (.ior, 1) := by decide +kernel
theorem d_S_firstFault_145 : decode b_S_firstFault 145 = .ok (.istore_n 2, 1) := by decide +kernel
theorem d_S_firstFault_146 : decode b_S_firstFault 146 = .ok (.iinc 3 2, 3) := by decide +kernel
theorem d_S_firstFault_149 : decode b_S_firstFault 149 = .ok (.goto 5, 3) := by decide +kernel
theorem d_S_firstFault_152 : decode b_S_firstFault 152 = .ok (.iload_n 3, 1) := by decide +kernel
theorem d_S_firstFault_153 : decode b_S_firstFault 153 = .ok (.ireturn, 1) := by decide +kernel
theorem d_S_firstFault_154 : decode b_S_firstFault 154 = .ok (.goto (-136), 3) := by decide +kernel
theorem d_S_firstFault_157 : decode b_S_firstFault 157 = .ok (.bipush (-9), 2) := by decide +kernel
theorem d_S_firstFault_159 : decode b_S_firstFault 159 = .ok (.ireturn, 1) := by decide +kernel
abbrev b_I_bitCount : ByteArray := prog_6_method_49_code
def y_I_bitCount : MethodName := ⟨"java/lang/Integer", "bitCount", "(I)I"⟩
theorem mc_I_bitCount : Cond.code y_I_bitCount b_I_bitCount 1 (Option.some .int) ∈ lw_use := g_use (List.mem_of_getElem? (i := 208) (by decide +kernel)) rfl
theorem d_I_bitCount_0 : decode b_I_bitCount 0 = .ok (.iload_n 0, 1) := by decide +kernel
theorem d_I_bitCount_1 : decode b_I_bitCount 1 = .ok (.iload_n 0, 1) := by decide +kernel
theorem d_I_bitCount_2 : decode b_I_bitCount 2 = .ok (.iconst 1, 1) := by decide +kernel
theorem d_I_bitCount_3 : decode b_I_bitCount 3 = .ok (.iushr, 1) := by decide +kernel
theorem d_I_bitCount_4 : decode b_I_bitCount 4 = .ok (.ldc_w 265, 3) := by decide +kernel
theorem d_I_bitCount_7 : decode b_I_bitCount 7 = .ok (.iand, 1) := by decide +kernel
theorem d_I_bitCount_8 : decode b_I_bitCount 8 = .ok (.isub, 1) := by decide +kernel
theorem d_I_bitCount_9 : decode b_I_bitCount 9 = .ok (.istore_n 0, 1) := by decide +kernel
theorem d_I_bitCount_10 : decode b_I_bitCount 10 = .ok (.iload_n 0, 1) := by decide +kernel
theorem d_I_bitCount_11 : decode b_I_bitCount 11 = .ok (.ldc_w 266, 3) := by decide +kernel
theorem d_I_bitCount_14 : decode b_I_bitCount 14 = .ok (.iand, 1) := by decide +kernel
theorem d_I_bitCount_15 : decode b_I_bitCount 15 = .ok (.iload_n 0, 1) := by decide +kernel
theorem d_I_bitCount_16 : decode b_I_bitCount 16 = .ok (.iconst 2, 1) := by decide +kernel
theorem d_I_bitCount_17 : decode b_I_bitCount 17 = .ok (.iushr, 1) := by decide +kernel
theorem d_I_bitCount_18 : decode b_I_bitCount 18 = .ok (.ldc_w 266, 3) := by decide +kernel
theorem d_I_bitCount_21 : decode b_I_bitCount 21 = .ok (.iand, 1) := by decide +kernel
theorem d_I_bitCount_22 : decode b_I_bitCount 22 = .ok (.iadd, 1) := by decide +kernel
theorem d_I_bitCount_23 : decode b_I_bitCount 23 = .ok (.istore_n 0, 1) := by decide +kernel
theorem d_I_bitCount_24 : decode b_I_bitCount 24 = .ok (.iload_n 0, 1) := by decide +kernel
theorem d_I_bitCount_25 : decode b_I_bitCount 25 = .ok (.iload_n 0, 1) := by decide +kernel
theorem d_I_bitCount_26 : decode b_I_bitCount 26 = .ok (.iconst 4, 1) := by decide +kernel
theorem d_I_bitCount_27 : decode b_I_bitCount 27 = .ok (.iushr, 1) := by decide +kernel
theorem d_I_bitCount_28 : decode b_I_bitCount 28 = .ok (.iadd, 1) := by decide +kernel
theorem d_I_bitCount_29 : decode b_I_bitCount 29 = .ok (.ldc_w 267, 3) := by decide +kernel
theorem d_I_bitCount_32 : decode b_I_bitCount 32 = .ok (.iand, 1) := by decide +kernel
theorem d_I_bitCount_33 : decode b_I_bitCount 33 = .ok (.istore_n 0, 1) := by decide +kernel
theorem d_I_bitCount_34 : decode b_I_bitCount 34 = .ok (.iload_n 0, 1) := by decide +kernel
theorem d_I_bitCount_35 : decode b_I_bitCount 35 = .ok (.iload_n 0, 1) := by decide +kernel
theorem d_I_bitCount_36 : decode b_I_bitCount 36 = .ok (.bipush 8, 2) := by decide +kernel
theorem d_I_bitCount_38 : decode b_I_bitCount 38 = .ok (.iushr, 1) := by decide +kernel
theorem d_I_bitCount_39 : decode b_I_bitCount 39 = .ok (.iadd, 1) := by decide +kernel
theorem d_I_bitCount_40 : decode b_I_bitCount 40 = .ok (.istore_n 0, 1) := by decide +kernel
theorem d_I_bitCount_41 : decode b_I_bitCount 41 = .ok (.iload_n 0, 1) := by decide +kernel
theorem d_I_bitCount_42 : decode b_I_bitCount 42 = .ok (.iload_n 0, 1) := by decide +kernel
theorem d_I_bitCount_43 : decode b_I_bitCount 43 = .ok (.bipush 16, 2) := by decide +kernel
theorem d_I_bitCount_45 : decode b_I_bitCount 45 = .ok (.iushr, 1) := by decide +kernel
theorem d_I_bitCount_46 : decode b_I_bitCount 46 = .ok (.iadd, 1) := by decide +kernel
theorem d_I_bitCount_47 : decode b_I_bitCount 47 = .ok (.istore_n 0, 1) := by decide +kernel
theorem d_I_bitCount_48 : decode b_I_bitCount 48 = .ok (.iload_n 0, 1) := by decide +kernel
theorem d_I_bitCount_49 : decode b_I_bitCount 49 = .ok (.bipush 63, 2) := by decide +kernel
theorem d_I_bitCount_51 : decode b_I_bitCount 51 = .ok (.iand, 1) := by decide +kernel
theorem d_I_bitCount_52 : decode b_I_bitCount 52 = .ok (.ireturn, 1) := by decide +kernel
abbrev b_A_fill : ByteArray := prog_8_method_103_code
def y_A_fill : MethodName := ⟨"java/util/Arrays", "fill", "([II)V"⟩
theorem mc_A_fill : Cond.code y_A_fill b_A_fill 4 none ∈ lw_use := g_use (List.mem_of_getElem? (i := 228) (by decide +kernel)) rfl
theorem d_A_fill_0 : decode b_A_fill 0 = .ok (.iconst 0, 1) := by decide +kernel
theorem d_A_fill_1 : decode b_A_fill 1 = .ok (.istore_n 2, 1) := by decide +kernel
theorem d_A_fill_2 : decode b_A_fill 2 = .ok (.aload_n 0, 1) := by decide +kernel
theorem d_A_fill_3 : decode b_A_fill 3 = .ok (.arraylength, 1) := by decide +kernel
theorem d_A_fill_4 : decode b_A_fill 4 = .ok (.istore_n 3, 1) := by decide +kernel
theorem d_A_fill_5 : decode b_A_fill 5 = .ok (.iload_n 2, 1) := by decide +kernel
theorem d_A_fill_6 : decode b_A_fill 6 = .ok (.iload_n 3, 1) := by decide +kernel
theorem d_A_fill_7 : decode b_A_fill 7 = .ok (.if_icmp .ge 13, 3) := by decide +kernel
theorem d_A_fill_10 : decode b_A_fill 10 = .ok (.aload_n 0, 1) := by decide +kernel
theorem d_A_fill_11 : decode b_A_fill 11 = .ok (.iload_n 2, 1) := by decide +kernel
theorem d_A_fill_12 : decode b_A_fill 12 = .ok (.iload_n 1, 1) := by decide +kernel
theorem d_A_fill_13 : decode b_A_fill 13 = .ok (.iastore, 1) := by decide +kernel
theorem d_A_fill_14 : decode b_A_fill 14 = .ok (.iinc 2 1, 3) := by decide +kernel
theorem d_A_fill_17 : decode b_A_fill 17 = .ok (.goto (-12), 3) := by decide +kernel
theorem d_A_fill_20 : decode b_A_fill 20 = .ok (.return_, 1) := by decide +kernel
