theorem dX0_init_0 : decode cX0_init 0 = .ok (.aload_n 0, 1) := by decide +kernel
theorem dX0_init_1 : decode cX0_init 1 = .ok (.invokespecial 3, 3) := by decide +kernel
theorem dX0_init_4 : decode cX0_init 4 = .ok (.aload_n 0, 1) := by decide +kernel
theorem dX0_init_5 : decode cX0_init 5 = .ok (.bipush 10, 2) := by decide +kernel
theorem dX0_init_7 : decode cX0_init 7 = .ok (.anewarray 9, 3) := by decide +kernel
theorem dX0_init_10 : decode cX0_init 10 = .ok (.putfield 11, 3) := by decide +kernel
theorem dX0_init_13 : decode cX0_init 13 = .ok (.return_, 1) := by decide +kernel
theorem dX0_remember_0 : decode cX0_remember 0 = .ok (.aload_n 0, 1) := by decide +kernel
theorem dX0_remember_1 : decode cX0_remember 1 = .ok (.getfield 11, 3) := by decide +kernel
theorem dX0_remember_4 : decode cX0_remember 4 = .ok (.aload_n 0, 1) := by decide +kernel
theorem dX0_remember_5 : decode cX0_remember 5 = .ok (.getfield 17, 3) := by decide +kernel
theorem dX0_remember_8 : decode cX0_remember 8 = .ok (.aaload, 1) := by decide +kernel
theorem dX0_remember_9 : decode cX0_remember 9 = .ok (.astore_n 2, 1) := by decide +kernel
theorem dX0_remember_10 : decode cX0_remember 10 = .ok (.aload_n 2, 1) := by decide +kernel
theorem dX0_remember_11 : decode cX0_remember 11 = .ok (.ifnonnull 21, 3) := by decide +kernel
theorem dX0_remember_14 : decode cX0_remember 14 = .ok (.new 9, 3) := by decide +kernel
theorem dX0_remember_17 : decode cX0_remember 17 = .ok (.dup, 1) := by decide +kernel
theorem dX0_remember_18 : decode cX0_remember 18 = .ok (.invokespecial 21, 3) := by decide +kernel
theorem dX0_remember_21 : decode cX0_remember 21 = .ok (.astore_n 2, 1) := by decide +kernel
theorem dX0_remember_22 : decode cX0_remember 22 = .ok (.aload_n 0, 1) := by decide +kernel
theorem dX0_remember_23 : decode cX0_remember 23 = .ok (.getfield 11, 3) := by decide +kernel
theorem dX0_remember_26 : decode cX0_remember 26 = .ok (.aload_n 0, 1) := by decide +kernel
theorem dX0_remember_27 : decode cX0_remember 27 = .ok (.getfield 17, 3) := by decide +kernel
theorem dX0_remember_30 : decode cX0_remember 30 = .ok (.aload_n 2, 1) := by decide +kernel
theorem dX0_remember_31 : decode cX0_remember 31 = .ok (.aastore, 1) := by decide +kernel
theorem dX0_remember_32 : decode cX0_remember 32 = .ok (.aload_n 2, 1) := by decide +kernel
theorem dX0_remember_33 : decode cX0_remember 33 = .ok (.aload_n 1, 1) := by decide +kernel
theorem dX0_remember_34 : decode cX0_remember 34 = .ok (.invokevirtual 22, 3) := by decide +kernel
theorem dX0_remember_37 : decode cX0_remember 37 = .ok (.aload_n 0, 1) := by decide +kernel
theorem dX0_remember_38 : decode cX0_remember 38 = .ok (.aload_n 0, 1) := by decide +kernel
theorem dX0_remember_39 : decode cX0_remember 39 = .ok (.getfield 17, 3) := by decide +kernel
theorem dX0_remember_42 : decode cX0_remember 42 = .ok (.iconst 1, 1) := by decide +kernel
theorem dX0_remember_43 : decode cX0_remember 43 = .ok (.iadd, 1) := by decide +kernel
theorem dX0_remember_44 : decode cX0_remember 44 = .ok (.bipush 10, 2) := by decide +kernel
theorem dX0_remember_46 : decode cX0_remember 46 = .ok (.irem, 1) := by decide +kernel
theorem dX0_remember_47 : decode cX0_remember 47 = .ok (.putfield 17, 3) := by decide +kernel
theorem dX0_remember_50 : decode cX0_remember 50 = .ok (.aload_n 0, 1) := by decide +kernel
theorem dX0_remember_51 : decode cX0_remember 51 = .ok (.aload_n 0, 1) := by decide +kernel
theorem dX0_remember_52 : decode cX0_remember 52 = .ok (.getfield 26, 3) := by decide +kernel
theorem dX0_remember_55 : decode cX0_remember 55 = .ok (.iconst 1, 1) := by decide +kernel
theorem dX0_remember_56 : decode cX0_remember 56 = .ok (.iadd, 1) := by decide +kernel
theorem dX0_remember_57 : decode cX0_remember 57 = .ok (.bipush 10, 2) := by decide +kernel
theorem dX0_remember_59 : decode cX0_remember 59 = .ok (.invokestatic 29, 3) := by decide +kernel
theorem dX0_remember_62 : decode cX0_remember 62 = .ok (.putfield 26, 3) := by decide +kernel
theorem dX0_remember_65 : decode cX0_remember 65 = .ok (.return_, 1) := by decide +kernel
theorem dX0_takeBackInto_0 : decode cX0_takeBackInto 0 = .ok (.aload_n 0, 1) := by decide +kernel
theorem dX0_takeBackInto_1 : decode cX0_takeBackInto 1 = .ok (.getfield 17, 3) := by decide +kernel
theorem dX0_takeBackInto_4 : decode cX0_takeBackInto 4 = .ok (.bipush 10, 2) := by decide +kernel
theorem dX0_takeBackInto_6 : decode cX0_takeBackInto 6 = .ok (.iadd, 1) := by decide +kernel
theorem dX0_takeBackInto_7 : decode cX0_takeBackInto 7 = .ok (.iconst 1, 1) := by decide +kernel
theorem dX0_takeBackInto_8 : decode cX0_takeBackInto 8 = .ok (.isub, 1) := by decide +kernel
theorem dX0_takeBackInto_9 : decode cX0_takeBackInto 9 = .ok (.bipush 10, 2) := by decide +kernel
theorem dX0_takeBackInto_11 : decode cX0_takeBackInto 11 = .ok (.irem, 1) := by decide +kernel
theorem dX0_takeBackInto_12 : decode cX0_takeBackInto 12 = .ok (.istore_n 2, 1) := by decide +kernel
theorem dX0_takeBackInto_13 : decode cX0_takeBackInto 13 = .ok (.aload_n 0, 1) := by decide +kernel
theorem dX0_takeBackInto_14 : decode cX0_takeBackInto 14 = .ok (.getfield 11, 3) := by decide +kernel
theorem dX0_takeBackInto_17 : decode cX0_takeBackInto 17 = .ok (.iload_n 2, 1) := by decide +kernel
theorem dX0_takeBackInto_18 : decode cX0_takeBackInto 18 = .ok (.aaload, 1) := by decide +kernel
theorem dX0_takeBackInto_19 : decode cX0_takeBackInto 19 = .ok (.astore_n 3, 1) := by decide +kernel
theorem dX0_takeBackInto_20 : decode cX0_takeBackInto 20 = .ok (.aload_n 0, 1) := by decide +kernel
theorem dX0_takeBackInto_21 : decode cX0_takeBackInto 21 = .ok (.getfield 26, 3) := by decide +kernel
theorem dX0_takeBackInto_24 : decode cX0_takeBackInto 24 = .ok (.ifCond .eq 7, 3) := by decide +kernel
theorem dX0_takeBackInto_27 : decode cX0_takeBackInto 27 = .ok (.aload_n 3, 1) := by decide +kernel
theorem dX0_takeBackInto_28 : decode cX0_takeBackInto 28 = .ok (.ifnonnull 5, 3) := by decide +kernel
theorem dX0_takeBackInto_31 : decode cX0_takeBackInto 31 = .ok (.iconst (-1), 1) := by decide +kernel
theorem dX0_takeBackInto_32 : decode cX0_takeBackInto 32 = .ok (.ireturn, 1) := by decide +kernel
theorem dX0_takeBackInto_33 : decode cX0_takeBackInto 33 = .ok (.aload_n 1, 1) := by decide +kernel
theorem dX0_takeBackInto_34 : decode cX0_takeBackInto 34 = .ok (.aload_n 3, 1) := by decide +kernel
theorem dX0_takeBackInto_35 : decode cX0_takeBackInto 35 = .ok (.invokevirtual 22, 3) := by decide +kernel
theorem dX0_takeBackInto_38 : decode cX0_takeBackInto 38 = .ok (.aload_n 0, 1) := by decide +kernel
theorem dX0_takeBackInto_39 : decode cX0_takeBackInto 39 = .ok (.iload_n 2, 1) := by decide +kernel
theorem dX0_takeBackInto_40 : decode cX0_takeBackInto 40 = .ok (.putfield 17, 3) := by decide +kernel
theorem dX0_takeBackInto_43 : decode cX0_takeBackInto 43 = .ok (.aload_n 0, 1) := by decide +kernel
theorem dX0_takeBackInto_44 : decode cX0_takeBackInto 44 = .ok (.dup, 1) := by decide +kernel
theorem dX0_takeBackInto_45 : decode cX0_takeBackInto 45 = .ok (.getfield 26, 3) := by decide +kernel
theorem dX0_takeBackInto_48 : decode cX0_takeBackInto 48 = .ok (.iconst 1, 1) := by decide +kernel
theorem dX0_takeBackInto_49 : decode cX0_takeBackInto 49 = .ok (.isub, 1) := by decide +kernel
theorem dX0_takeBackInto_50 : decode cX0_takeBackInto 50 = .ok (.putfield 26, 3) := by decide +kernel
theorem dX0_takeBackInto_53 : decode cX0_takeBackInto 53 = .ok (.aload_n 0, 1) := by decide +kernel
theorem dX0_takeBackInto_54 : decode cX0_takeBackInto 54 = .ok (.getfield 26, 3) := by decide +kernel
theorem dX0_takeBackInto_57 : decode cX0_takeBackInto 57 = .ok (.ireturn, 1) := by decide +kernel
theorem dX0_forget_0 : decode cX0_forget 0 = .ok (.aload_n 0, 1) := by decide +kernel
theorem dX0_forget_1 : decode cX0_forget 1 = .ok (.iconst 0, 1) := by decide +kernel
theorem dX0_forget_2 : decode cX0_forget 2 = .ok (.putfield 26, 3) := by decide +kernel
theorem dX0_forget_5 : decode cX0_forget 5 = .ok (.return_, 1) := by decide +kernel
theorem dX1_init_0 : decode cX1_init 0 = .ok (.aload_n 0, 1) := by decide +kernel
theorem dX1_init_1 : decode cX1_init 1 = .ok (.invokespecial 3, 3) := by decide +kernel
theorem dX1_init_4 : decode cX1_init 4 = .ok (.aload_n 0, 1) := by decide +kernel
theorem dX1_init_5 : decode cX1_init 5 = .ok (.bipush 60, 2) := by decide +kernel
theorem dX1_init_7 : decode cX1_init 7 = .ok (.newarray .int, 2) := by decide +kernel
theorem dX1_init_9 : decode cX1_init 9 = .ok (.putfield 9, 3) := by decide +kernel
theorem dX1_init_12 : decode cX1_init 12 = .ok (.aload_n 0, 1) := by decide +kernel
theorem dX1_init_13 : decode cX1_init 13 = .ok (.bipush 60, 2) := by decide +kernel
theorem dX1_init_15 : decode cX1_init 15 = .ok (.newarray .int, 2) := by decide +kernel
theorem dX1_init_17 : decode cX1_init 17 = .ok (.putfield 15, 3) := by decide +kernel
theorem dX1_init_20 : decode cX1_init 20 = .ok (.aload_n 0, 1) := by decide +kernel
theorem dX1_init_21 : decode cX1_init 21 = .ok (.bipush 60, 2) := by decide +kernel
theorem dX1_init_23 : decode cX1_init 23 = .ok (.newarray .int, 2) := by decide +kernel
theorem dX1_init_25 : decode cX1_init 25 = .ok (.putfield 18, 3) := by decide +kernel
theorem dX1_init_28 : decode cX1_init 28 = .ok (.aload_n 0, 1) := by decide +kernel
theorem dX1_init_29 : decode cX1_init 29 = .ok (.bipush 60, 2) := by decide +kernel
theorem dX1_init_31 : decode cX1_init 31 = .ok (.newarray .int, 2) := by decide +kernel
theorem dX1_init_33 : decode cX1_init 33 = .ok (.putfield 21, 3) := by decide +kernel
theorem dX1_init_36 : decode cX1_init 36 = .ok (.aload_n 0, 1) := by decide +kernel
theorem dX1_init_37 : decode cX1_init 37 = .ok (.bipush 60, 2) := by decide +kernel
theorem dX1_init_39 : decode cX1_init 39 = .ok (.newarray .int, 2) := by decide +kernel
theorem dX1_init_41 : decode cX1_init 41 = .ok (.putfield 24, 3) := by decide +kernel
theorem dX1_init_44 : decode cX1_init 44 = .ok (.aload_n 0, 1) := by decide +kernel
theorem dX1_init_45 : decode cX1_init 45 = .ok (.bipush 60, 2) := by decide +kernel
theorem dX1_init_47 : decode cX1_init 47 = .ok (.newarray .int, 2) := by decide +kernel
theorem dX1_init_49 : decode cX1_init 49 = .ok (.putfield 27, 3) := by decide +kernel
theorem dX1_init_52 : decode cX1_init 52 = .ok (.aload_n 0, 1) := by decide +kernel
theorem dX1_init_53 : decode cX1_init 53 = .ok (.bipush 60, 2) := by decide +kernel
theorem dX1_init_55 : decode cX1_init 55 = .ok (.newarray .int, 2) := by decide +kernel
theorem dX1_init_57 : decode cX1_init 57 = .ok (.putfield 30, 3) := by decide +kernel
theorem dX1_init_60 : decode cX1_init 60 = .ok (.aload_n 0, 1) := by decide +kernel
theorem dX1_init_61 : decode cX1_init 61 = .ok (.bipush 60, 2) := by decide +kernel
theorem dX1_init_63 : decode cX1_init 63 = .ok (.newarray .int, 2) := by decide +kernel
theorem dX1_init_65 : decode cX1_init 65 = .ok (.putfield 33, 3) := by decide +kernel
theorem dX1_init_68 : decode cX1_init 68 = .ok (.aload_n 0, 1) := by decide +kernel
theorem dX1_init_69 : decode cX1_init 69 = .ok (.bipush 60, 2) := by decide +kernel
theorem dX1_init_71 : decode cX1_init 71 = .ok (.newarray .int, 2) := by decide +kernel
theorem dX1_init_73 : decode cX1_init 73 = .ok (.putfield 36, 3) := by decide +kernel
theorem dX1_init_76 : decode cX1_init 76 = .ok (.aload_n 0, 1) := by decide +kernel
theorem dX1_init_77 : decode cX1_init 77 = .ok (.bipush 60, 2) := by decide +kernel
theorem dX1_init_79 : decode cX1_init 79 = .ok (.newarray .int, 2) := by decide +kernel
theorem dX1_init_81 : decode cX1_init 81 = .ok (.putfield 39, 3) := by decide +kernel
theorem dX1_init_84 : decode cX1_init 84 = .ok (.return_, 1) := by decide +kernel
theorem dX1_copyFrom_0 : decode cX1_copyFrom 0 = .ok (.aload_n 0, 1) := by decide +kernel
theorem dX1_copyFrom_1 : decode cX1_copyFrom 1 = .ok (.aload_n 1, 1) := by decide +kernel
theorem dX1_copyFrom_2 : decode cX1_copyFrom 2 = .ok (.getfield 42, 3) := by decide +kernel
theorem dX1_copyFrom_5 : decode cX1_copyFrom 5 = .ok (.putfield 42, 3) := by decide +kernel
theorem dX1_copyFrom_8 : decode cX1_copyFrom 8 = .ok (.aload_n 1, 1) := by decide +kernel
theorem dX1_copyFrom_9 : decode cX1_copyFrom 9 = .ok (.getfield 9, 3) := by decide +kernel
theorem dX1_copyFrom_12 : decode cX1_copyFrom 12 = .ok (.iconst 0, 1) := by decide +kernel
theorem dX1_copyFrom_13 : decode cX1_copyFrom 13 = .ok (.aload_n 0, 1) := by decide +kernel
theorem dX1_copyFrom_14 : decode cX1_copyFrom 14 = .ok (.getfield 9, 3) := by decide +kernel
theorem dX1_copyFrom_17 : decode cX1_copyFrom 17 = .ok (.iconst 0, 1) := by decide +kernel
theorem dX1_copyFrom_18 : decode cX1_copyFrom 18 = .ok (.aload_n 0, 1) := by decide +kernel
theorem dX1_copyFrom_19 : decode cX1_copyFrom 19 = .ok (.getfield 42, 3) := by decide +kernel
theorem dX1_copyFrom_22 : decode cX1_copyFrom 22 = .ok (.invokestatic 46, 3) := by decide +kernel
theorem dX1_copyFrom_25 : decode cX1_copyFrom 25 = .ok (.aload_n 1, 1) := by decide +kernel
theorem dX1_copyFrom_26 : decode cX1_copyFrom 26 = .ok (.getfield 15, 3) := by decide +kernel
theorem dX1_copyFrom_29 : decode cX1_copyFrom 29 = .ok (.iconst 0, 1) := by decide +kernel
theorem dX1_copyFrom_30 : decode cX1_copyFrom 30 = .ok (.aload_n 0, 1) := by decide +kernel
theorem dX1_copyFrom_31 : decode cX1_copyFrom 31 = .ok (.getfield 15, 3) := by decide +kernel
theorem dX1_copyFrom_34 : decode cX1_copyFrom 34 = .ok (.iconst 0, 1) := by decide +kernel
theorem dX1_copyFrom_35 : decode cX1_copyFrom 35 = .ok (.aload_n 0, 1) := by decide +kernel
theorem dX1_copyFrom_36 : decode cX1_copyFrom 36 = .ok (.getfield 42, 3) := by decide +kernel
theorem dX1_copyFrom_39 : decode cX1_copyFrom 39 = .ok (.invokestatic 46, 3) := by decide +kernel
theorem dX1_copyFrom_42 : decode cX1_copyFrom 42 = .ok (.aload_n 1, 1) := by decide +kernel
theorem dX1_copyFrom_43 : decode cX1_copyFrom 43 = .ok (.getfield 18, 3) := by decide +kernel
theorem dX1_copyFrom_46 : decode cX1_copyFrom 46 = .ok (.iconst 0, 1) := by decide +kernel
theorem dX1_copyFrom_47 : decode cX1_copyFrom 47 = .ok (.aload_n 0, 1) := by decide +kernel
theorem dX1_copyFrom_48 : decode cX1_copyFrom 48 = .ok (.getfield 18, 3) := by decide +kernel
theorem dX1_copyFrom_51 : decode cX1_copyFrom 51 = .ok (.iconst 0, 1) := by decide +kernel
theorem dX1_copyFrom_52 : decode cX1_copyFrom 52 = .ok (.aload_n 0, 1) := by decide +kernel
theorem dX1_copyFrom_53 : decode cX1_copyFrom 53 = .ok (.getfield 42, 3) := by decide +kernel
theorem dX1_copyFrom_56 : decode cX1_copyFrom 56 = .ok (.invokestatic 46, 3) := by decide +kernel
theorem dX1_copyFrom_59 : decode cX1_copyFrom 59 = .ok (.aload_n 1, 1) := by decide +kernel
theorem dX1_copyFrom_60 : decode cX1_copyFrom 60 = .ok (.getfield 21, 3) := by decide +kernel
theorem dX1_copyFrom_63 : decode cX1_copyFrom 63 = .ok (.iconst 0, 1) := by decide +kernel
theorem dX1_copyFrom_64 : decode cX1_copyFrom 64 = .ok (.aload_n 0, 1) := by decide +kernel
theorem dX1_copyFrom_65 : decode cX1_copyFrom 65 = .ok (.getfield 21, 3) := by decide +kernel
theorem dX1_copyFrom_68 : decode cX1_copyFrom 68 = .ok (.iconst 0, 1) := by decide +kernel
theorem dX1_copyFrom_69 : decode cX1_copyFrom 69 = .ok (.aload_n 0, 1) := by decide +kernel
theorem dX1_copyFrom_70 : decode cX1_copyFrom 70 = .ok (.getfield 42, 3) := by decide +kernel
theorem dX1_copyFrom_73 : decode cX1_copyFrom 73 = .ok (.invokestatic 46, 3) := by decide +kernel
theorem dX1_copyFrom_76 : decode cX1_copyFrom 76 = .ok (.aload_n 1, 1) := by decide +kernel
theorem dX1_copyFrom_77 : decode cX1_copyFrom 77 = .ok (.getfield 24, 3) := by decide +kernel
theorem dX1_copyFrom_80 : decode cX1_copyFrom 80 = .ok (.iconst 0, 1) := by decide +kernel
theorem dX1_copyFrom_81 : decode cX1_copyFrom 81 = .ok (.aload_n 0, 1) := by decide +kernel
theorem dX1_copyFrom_82 : decode cX1_copyFrom 82 = .ok (.getfield 24, 3) := by decide +kernel
theorem dX1_copyFrom_85 : decode cX1_copyFrom 85 = .ok (.iconst 0, 1) := by decide +kernel
theorem dX1_copyFrom_86 : decode cX1_copyFrom 86 = .ok (.aload_n 0, 1) := by decide +kernel
theorem dX1_copyFrom_87 : decode cX1_copyFrom 87 = .ok (.getfield 42, 3) := by decide +kernel
theorem dX1_copyFrom_90 : decode cX1_copyFrom 90 = .ok (.invokestatic 46, 3) := by decide +kernel
theorem dX1_copyFrom_93 : decode cX1_copyFrom 93 = .ok (.aload_n 1, 1) := by decide +kernel
theorem dX1_copyFrom_94 : decode cX1_copyFrom 94 = .ok (.getfield 27, 3) := by decide +kernel
theorem dX1_copyFrom_97 : decode cX1_copyFrom 97 = .ok (.iconst 0, 1) := by decide +kernel
theorem dX1_copyFrom_98 : decode cX1_copyFrom 98 = .ok (.aload_n 0, 1) := by decide +kernel
theorem dX1_copyFrom_99 : decode cX1_copyFrom 99 = .ok (.getfield 27, 3) := by decide +kernel
theorem dX1_copyFrom_102 : decode cX1_copyFrom 102 = .ok (.iconst 0, 1) := by decide +kernel
theorem dX1_copyFrom_103 : decode cX1_copyFrom 103 = .ok (.aload_n 0, 1) := by decide +kernel
theorem dX1_copyFrom_104 : decode cX1_copyFrom 104 = .ok (.getfield 42, 3) := by decide +kernel
theorem dX1_copyFrom_107 : decode cX1_copyFrom 107 = .ok (.invokestatic 46, 3) := by decide +kernel
theorem dX1_copyFrom_110 : decode cX1_copyFrom 110 = .ok (.aload_n 1, 1) := by decide +kernel
theorem dX1_copyFrom_111 : decode cX1_copyFrom 111 = .ok (.getfield 30, 3) := by decide +kernel
theorem dX1_copyFrom_114 : decode cX1_copyFrom 114 = .ok (.iconst 0, 1) := by decide +kernel
theorem dX1_copyFrom_115 : decode cX1_copyFrom 115 = .ok (.aload_n 0, 1) := by decide +kernel
theorem dX1_copyFrom_116 : decode cX1_copyFrom 116 = .ok (.getfield 30, 3) := by decide +kernel
theorem dX1_copyFrom_119 : decode cX1_copyFrom 119 = .ok (.iconst 0, 1) := by decide +kernel
theorem dX1_copyFrom_120 : decode cX1_copyFrom 120 = .ok (.aload_n 0, 1) := by decide +kernel
theorem dX1_copyFrom_121 : decode cX1_copyFrom 121 = .ok (.getfield 42, 3) := by decide +kernel
theorem dX1_copyFrom_124 : decode cX1_copyFrom 124 = .ok (.invokestatic 46, 3) := by decide +kernel
theorem dX1_copyFrom_127 : decode cX1_copyFrom 127 = .ok (.aload_n 1, 1) := by decide +kernel
theorem dX1_copyFrom_128 : decode cX1_copyFrom 128 = .ok (.getfield 33, 3) := by decide +kernel
theorem dX1_copyFrom_131 : decode cX1_copyFrom 131 = .ok (.iconst 0, 1) := by decide +kernel
theorem dX1_copyFrom_132 : decode cX1_copyFrom 132 = .ok (.aload_n 0, 1) := by decide +kernel
theorem dX1_copyFrom_133 : decode cX1_copyFrom 133 = .ok (.getfield 33, 3) := by decide +kernel
theorem dX1_copyFrom_136 : decode cX1_copyFrom 136 = .ok (.iconst 0, 1) := by decide +kernel
theorem dX1_copyFrom_137 : decode cX1_copyFrom 137 = .ok (.aload_n 0, 1) := by decide +kernel
theorem dX1_copyFrom_138 : decode cX1_copyFrom 138 = .ok (.getfield 42, 3) := by decide +kernel
theorem dX1_copyFrom_141 : decode cX1_copyFrom 141 = .ok (.invokestatic 46, 3) := by decide +kernel
theorem dX1_copyFrom_144 : decode cX1_copyFrom 144 = .ok (.aload_n 1, 1) := by decide +kernel
theorem dX1_copyFrom_145 : decode cX1_copyFrom 145 = .ok (.getfield 36, 3) := by decide +kernel
theorem dX1_copyFrom_148 : decode cX1_copyFrom 148 = .ok (.iconst 0, 1) := by decide +kernel
theorem dX1_copyFrom_149 : decode cX1_copyFrom 149 = .ok (.aload_n 0, 1) := by decide +kernel
theorem dX1_copyFrom_150 : decode cX1_copyFrom 150 = .ok (.getfield 36, 3) := by decide +kernel
theorem dX1_copyFrom_153 : decode cX1_copyFrom 153 = .ok (.iconst 0, 1) := by decide +kernel
theorem dX1_copyFrom_154 : decode cX1_copyFrom 154 = .ok (.aload_n 0, 1) := by decide +kernel
theorem dX1_copyFrom_155 : decode cX1_copyFrom 155 = .ok (.getfield 42, 3) := by decide +kernel
theorem dX1_copyFrom_158 : decode cX1_copyFrom 158 = .ok (.invokestatic 46, 3) := by decide +kernel
theorem dX1_copyFrom_161 : decode cX1_copyFrom 161 = .ok (.aload_n 1, 1) := by decide +kernel
theorem dX1_copyFrom_162 : decode cX1_copyFrom 162 = .ok (.getfield 39, 3) := by decide +kernel
theorem dX1_copyFrom_165 : decode cX1_copyFrom 165 = .ok (.iconst 0, 1) := by decide +kernel
theorem dX1_copyFrom_166 : decode cX1_copyFrom 166 = .ok (.aload_n 0, 1) := by decide +kernel
theorem dX1_copyFrom_167 : decode cX1_copyFrom 167 = .ok (.getfield 39, 3) := by decide +kernel
theorem dX1_copyFrom_170 : decode cX1_copyFrom 170 = .ok (.iconst 0, 1) := by decide +kernel
theorem dX1_copyFrom_171 : decode cX1_copyFrom 171 = .ok (.aload_n 0, 1) := by decide +kernel
theorem dX1_copyFrom_172 : decode cX1_copyFrom 172 = .ok (.getfield 42, 3) := by decide +kernel
theorem dX1_copyFrom_175 : decode cX1_copyFrom 175 = .ok (.invokestatic 46, 3) := by decide +kernel
theorem dX1_copyFrom_178 : decode cX1_copyFrom 178 = .ok (.return_, 1) := by decide +kernel
theorem dX1_has_0 : decode cX1_has 0 = .ok (.iload_n 1, 1) := by decide +kernel
theorem dX1_has_1 : decode cX1_has 1 = .ok (.ifCond .lt 15, 3) := by decide +kernel
theorem dX1_has_4 : decode cX1_has 4 = .ok (.iload_n 1, 1) := by decide +kernel
theorem dX1_has_5 : decode cX1_has 5 = .ok (.aload_n 0, 1) := by decide +kernel
theorem dX1_has_6 : decode cX1_has 6 = .ok (.getfield 42, 3) := by decide +kernel
theorem dX1_has_9 : decode cX1_has 9 = .ok (.if_icmp .ge 7, 3) := by decide +kernel
theorem dX1_has_12 : decode cX1_has 12 = .ok (.iconst 1, 1) := by decide +kernel
theorem dX1_has_13 : decode cX1_has 13 = .ok (.goto 4, 3) := by decide +kernel
theorem dX1_has_16 : decode cX1_has 16 = .ok (.iconst 0, 1) := by decide +kernel
theorem dX1_has_17 : decode cX1_has 17 = .ok (.ireturn, 1) := by decide +kernel
theorem dX1_isOpen_0 : decode cX1_isOpen 0 = .ok (.aload_n 0, 1) := by decide +kernel
theorem dX1_isOpen_1 : decode cX1_isOpen 1 = .ok (.getfield 30, 3) := by decide +kernel
theorem dX1_isOpen_4 : decode cX1_isOpen 4 = .ok (.iload_n 1, 1) := by decide +kernel
theorem dX1_isOpen_5 : decode cX1_isOpen 5 = .ok (.iaload, 1) := by decide +kernel
theorem dX1_isOpen_6 : decode cX1_isOpen 6 = .ok (.ifCond .ne 7, 3) := by decide +kernel
theorem dX1_isOpen_9 : decode cX1_isOpen 9 = .ok (.iconst 1, 1) := by decide +kernel
theorem dX1_isOpen_10 : decode cX1_isOpen 10 = .ok (.goto 4, 3) := by decide +kernel
theorem dX1_isOpen_13 : decode cX1_isOpen 13 = .ok (.iconst 0, 1) := by decide +kernel
theorem dX1_isOpen_14 : decode cX1_isOpen 14 = .ok (.ireturn, 1) := by decide +kernel
theorem dX1_isFor_0 : decode cX1_isFor 0 = .ok (.aload_n 0, 1) := by decide +kernel
theorem dX1_isFor_1 : decode cX1_isFor 1 = .ok (.getfield 9, 3) := by decide +kernel
theorem dX1_isFor_4 : decode cX1_isFor 4 = .ok (.iload_n 1, 1) := by decide +kernel
theorem dX1_isFor_5 : decode cX1_isFor 5 = .ok (.iaload, 1) := by decide +kernel
theorem dX1_isFor_6 : decode cX1_isFor 6 = .ok (.iload_n 2, 1) := by decide +kernel
theorem dX1_isFor_7 : decode cX1_isFor 7 = .ok (.if_icmp .ne 17, 3) := by decide +kernel
theorem dX1_isFor_10 : decode cX1_isFor 10 = .ok (.aload_n 0, 1) := by decide +kernel
theorem dX1_isFor_11 : decode cX1_isFor 11 = .ok (.getfield 15, 3) := by decide +kernel
theorem dX1_isFor_14 : decode cX1_isFor 14 = .ok (.iload_n 1, 1) := by decide +kernel
theorem dX1_isFor_15 : decode cX1_isFor 15 = .ok (.iaload, 1) := by decide +kernel
theorem dX1_isFor_16 : decode cX1_isFor 16 = .ok (.iload_n 3, 1) := by decide +kernel
theorem dX1_isFor_17 : decode cX1_isFor 17 = .ok (.if_icmp .ne 7, 3) := by decide +kernel
theorem dX1_isFor_20 : decode cX1_isFor 20 = .ok (.iconst 1, 1) := by decide +kernel
theorem dX1_isFor_21 : decode cX1_isFor 21 = .ok (.goto 4, 3) := by decide +kernel
theorem dX1_isFor_24 : decode cX1_isFor 24 = .ok (.iconst 0, 1) := by decide +kernel
theorem dX1_isFor_25 : decode cX1_isFor 25 = .ok (.ireturn, 1) := by decide +kernel
theorem dX1_remains_0 : decode cX1_remains 0 = .ok (.aload_n 0, 1) := by decide +kernel
theorem dX1_remains_1 : decode cX1_remains 1 = .ok (.iload_n 1, 1) := by decide +kernel
theorem dX1_remains_2 : decode cX1_remains 2 = .ok (.invokevirtual 52, 3) := by decide +kernel
theorem dX1_remains_5 : decode cX1_remains 5 = .ok (.ifCond .eq 19, 3) := by decide +kernel
theorem dX1_remains_8 : decode cX1_remains 8 = .ok (.aload_n 0, 1) := by decide +kernel
theorem dX1_remains_9 : decode cX1_remains 9 = .ok (.getfield 18, 3) := by decide +kernel
theorem dX1_remains_12 : decode cX1_remains 12 = .ok (.iload_n 1, 1) := by decide +kernel
theorem dX1_remains_13 : decode cX1_remains 13 = .ok (.iaload, 1) := by decide +kernel
theorem dX1_remains_14 : decode cX1_remains 14 = .ok (.aload_n 0, 1) := by decide +kernel
theorem dX1_remains_15 : decode cX1_remains 15 = .ok (.getfield 27, 3) := by decide +kernel
theorem dX1_remains_18 : decode cX1_remains 18 = .ok (.iload_n 1, 1) := by decide +kernel
theorem dX1_remains_19 : decode cX1_remains 19 = .ok (.iaload, 1) := by decide +kernel
theorem dX1_remains_20 : decode cX1_remains 20 = .ok (.isub, 1) := by decide +kernel
theorem dX1_remains_21 : decode cX1_remains 21 = .ok (.goto 4, 3) := by decide +kernel
theorem dX1_remains_24 : decode cX1_remains 24 = .ok (.iconst 0, 1) := by decide +kernel
theorem dX1_remains_25 : decode cX1_remains 25 = .ok (.ireturn, 1) := by decide +kernel
theorem dX1_areAlike_0 : decode cX1_areAlike 0 = .ok (.aload_n 0, 1) := by decide +kernel
theorem dX1_areAlike_1 : decode cX1_areAlike 1 = .ok (.iload_n 1, 1) := by decide +kernel
theorem dX1_areAlike_2 : decode cX1_areAlike 2 = .ok (.aload_n 0, 1) := by decide +kernel
theorem dX1_areAlike_3 : decode cX1_areAlike 3 = .ok (.getfield 9, 3) := by decide +kernel
theorem dX1_areAlike_6 : decode cX1_areAlike 6 = .ok (.iload_n 2, 1) := by decide +kernel
theorem dX1_areAlike_7 : decode cX1_areAlike 7 = .ok (.iaload, 1) := by decide +kernel
theorem dX1_areAlike_8 : decode cX1_areAlike 8 = .ok (.aload_n 0, 1) := by decide +kernel
theorem dX1_areAlike_9 : decode cX1_areAlike 9 = .ok (.getfield 15, 3) := by decide +kernel
theorem dX1_areAlike_12 : decode cX1_areAlike 12 = .ok (.iload_n 2, 1) := by decide +kernel
theorem dX1_areAlike_13 : decode cX1_areAlike 13 = .ok (.iaload, 1) := by decide +kernel
theorem dX1_areAlike_14 : decode cX1_areAlike 14 = .ok (.invokevirtual 56, 3) := by decide +kernel
theorem dX1_areAlike_17 : decode cX1_areAlike 17 = .ok (.ifCond .eq 37, 3) := by decide +kernel
theorem dX1_areAlike_20 : decode cX1_areAlike 20 = .ok (.aload_n 0, 1) := by decide +kernel
theorem dX1_areAlike_21 : decode cX1_areAlike 21 = .ok (.getfield 21, 3) := by decide +kernel
theorem dX1_areAlike_24 : decode cX1_areAlike 24 = .ok (.iload_n 1, 1) := by decide +kernel
theorem dX1_areAlike_25 : decode cX1_areAlike 25 = .ok (.iaload, 1) := by decide +kernel
theorem dX1_areAlike_26 : decode cX1_areAlike 26 = .ok (.aload_n 0, 1) := by decide +kernel
theorem dX1_areAlike_27 : decode cX1_areAlike 27 = .ok (.getfield 21, 3) := by decide +kernel
theorem dX1_areAlike_30 : decode cX1_areAlike 30 = .ok (.iload_n 2, 1) := by decide +kernel
theorem dX1_areAlike_31 : decode cX1_areAlike 31 = .ok (.iaload, 1) := by decide +kernel
theorem dX1_areAlike_32 : decode cX1_areAlike 32 = .ok (.if_icmp .ne 22, 3) := by decide +kernel
theorem dX1_areAlike_35 : decode cX1_areAlike 35 = .ok (.aload_n 0, 1) := by decide +kernel
theorem dX1_areAlike_36 : decode cX1_areAlike 36 = .ok (.getfield 24, 3) := by decide +kernel
theorem dX1_areAlike_39 : decode cX1_areAlike 39 = .ok (.iload_n 1, 1) := by decide +kernel
theorem dX1_areAlike_40 : decode cX1_areAlike 40 = .ok (.iaload, 1) := by decide +kernel
theorem dX1_areAlike_41 : decode cX1_areAlike 41 = .ok (.aload_n 0, 1) := by decide +kernel
theorem dX1_areAlike_42 : decode cX1_areAlike 42 = .ok (.getfield 24, 3) := by decide +kernel
theorem dX1_areAlike_45 : decode cX1_areAlike 45 = .ok (.iload_n 2, 1) := by decide +kernel
theorem dX1_areAlike_46 : decode cX1_areAlike 46 = .ok (.iaload, 1) := by decide +kernel
theorem dX1_areAlike_47 : decode cX1_areAlike 47 = .ok (.if_icmp .ne 7, 3) := by decide +kernel
theorem dX1_areAlike_50 : decode cX1_areAlike 50 = .ok (.iconst 1, 1) := by decide +kernel
theorem dX1_areAlike_51 : decode cX1_areAlike 51 = .ok (.goto 4, 3) := by decide +kernel
theorem dX1_areAlike_54 : decode cX1_areAlike 54 = .ok (.iconst 0, 1) := by decide +kernel
theorem dX1_areAlike_55 : decode cX1_areAlike 55 = .ok (.ireturn, 1) := by decide +kernel
theorem dX1_wasOpenAfter_0 : decode cX1_wasOpenAfter 0 = .ok (.aload_n 0, 1) := by decide +kernel
theorem dX1_wasOpenAfter_1 : decode cX1_wasOpenAfter 1 = .ok (.getfield 21, 3) := by decide +kernel
theorem dX1_wasOpenAfter_4 : decode cX1_wasOpenAfter 4 = .ok (.iload_n 1, 1) := by decide +kernel
theorem dX1_wasOpenAfter_5 : decode cX1_wasOpenAfter 5 = .ok (.iaload, 1) := by decide +kernel
theorem dX1_wasOpenAfter_6 : decode cX1_wasOpenAfter 6 = .ok (.iload_n 2, 1) := by decide +kernel
theorem dX1_wasOpenAfter_7 : decode cX1_wasOpenAfter 7 = .ok (.if_icmp .gt 25, 3) := by decide +kernel
theorem dX1_wasOpenAfter_10 : decode cX1_wasOpenAfter 10 = .ok (.aload_n 0, 1) := by decide +kernel
theorem dX1_wasOpenAfter_11 : decode cX1_wasOpenAfter 11 = .ok (.iload_n 1, 1) := by decide +kernel
theorem dX1_wasOpenAfter_12 : decode cX1_wasOpenAfter 12 = .ok (.invokevirtual 52, 3) := by decide +kernel
theorem dX1_wasOpenAfter_15 : decode cX1_wasOpenAfter 15 = .ok (.ifCond .ne 13, 3) := by decide +kernel
theorem dX1_wasOpenAfter_18 : decode cX1_wasOpenAfter 18 = .ok (.aload_n 0, 1) := by decide +kernel
theorem dX1_wasOpenAfter_19 : decode cX1_wasOpenAfter 19 = .ok (.getfield 33, 3) := by decide +kernel
theorem dX1_wasOpenAfter_22 : decode cX1_wasOpenAfter 22 = .ok (.iload_n 1, 1) := by decide +kernel
theorem dX1_wasOpenAfter_23 : decode cX1_wasOpenAfter 23 = .ok (.iaload, 1) := by decide +kernel
theorem dX1_wasOpenAfter_24 : decode cX1_wasOpenAfter 24 = .ok (.iload_n 2, 1) := by decide +kernel
theorem dX1_wasOpenAfter_25 : decode cX1_wasOpenAfter 25 = .ok (.if_icmp .le 7, 3) := by decide +kernel
theorem dX1_wasOpenAfter_28 : decode cX1_wasOpenAfter 28 = .ok (.iconst 1, 1) := by decide +kernel
theorem dX1_wasOpenAfter_29 : decode cX1_wasOpenAfter 29 = .ok (.goto 4, 3) := by decide +kernel
theorem dX1_wasOpenAfter_32 : decode cX1_wasOpenAfter 32 = .ok (.iconst 0, 1) := by decide +kernel
theorem dX1_wasOpenAfter_33 : decode cX1_wasOpenAfter 33 = .ok (.ireturn, 1) := by decide +kernel
theorem dX1_issue_0 : decode cX1_issue 0 = .ok (.aload_n 0, 1) := by decide +kernel
theorem dX1_issue_1 : decode cX1_issue 1 = .ok (.getfield 42, 3) := by decide +kernel
theorem dX1_issue_4 : decode cX1_issue 4 = .ok (.bipush 60, 2) := by decide +kernel
theorem dX1_issue_6 : decode cX1_issue 6 = .ok (.if_icmp .lt 5, 3) := by decide +kernel
theorem dX1_issue_9 : decode cX1_issue 9 = .ok (.iconst (-1), 1) := by decide +kernel
theorem dX1_issue_10 : decode cX1_issue 10 = .ok (.ireturn, 1) := by decide +kernel
theorem dX1_issue_11 : decode cX1_issue 11 = .ok (.aload_n 0, 1) := by decide +kernel
theorem dX1_issue_12 : decode cX1_issue 12 = .ok (.getfield 42, 3) := by decide +kernel
theorem dX1_issue_15 : decode cX1_issue 15 = .ok (.istore 7, 2) := by decide +kernel
theorem dX1_issue_17 : decode cX1_issue 17 = .ok (.aload_n 0, 1) := by decide +kernel
theorem dX1_issue_18 : decode cX1_issue 18 = .ok (.dup, 1) := by decide +kernel
theorem dX1_issue_19 : decode cX1_issue 19 = .ok (.getfield 42, 3) := by decide +kernel
theorem dX1_issue_22 : decode cX1_issue 22 = .ok (.iconst 1, 1) := by decide +kernel
theorem dX1_issue_23 : decode cX1_issue 23 = .ok (.iadd, 1) := by decide +kernel
theorem dX1_issue_24 : decode cX1_issue 24 = .ok (.putfield 42, 3) := by decide +kernel
theorem dX1_issue_27 : decode cX1_issue 27 = .ok (.aload_n 0, 1) := by decide +kernel
theorem dX1_issue_28 : decode cX1_issue 28 = .ok (.getfield 9, 3) := by decide +kernel
theorem dX1_issue_31 : decode cX1_issue 31 = .ok (.iload 7, 2) := by decide +kernel
theorem dX1_issue_33 : decode cX1_issue 33 = .ok (.iload_n 1, 1) := by decide +kernel
theorem dX1_issue_34 : decode cX1_issue 34 = .ok (.iastore, 1) := by decide +kernel
theorem dX1_issue_35 : decode cX1_issue 35 = .ok (.aload_n 0, 1) := by decide +kernel
theorem dX1_issue_36 : decode cX1_issue 36 = .ok (.getfield 15, 3) := by decide +kernel
theorem dX1_issue_39 : decode cX1_issue 39 = .ok (.iload 7, 2) := by decide +kernel
theorem dX1_issue_41 : decode cX1_issue 41 = .ok (.iload_n 2, 1) := by decide +kernel
theorem dX1_issue_42 : decode cX1_issue 42 = .ok (.iastore, 1) := by decide +kernel
theorem dX1_issue_43 : decode cX1_issue 43 = .ok (.aload_n 0, 1) := by decide +kernel
theorem dX1_issue_44 : decode cX1_issue 44 = .ok (.getfield 18, 3) := by decide +kernel
theorem dX1_issue_47 : decode cX1_issue 47 = .ok (.iload 7, 2) := by decide +kernel
theorem dX1_issue_49 : decode cX1_issue 49 = .ok (.iload_n 3, 1) := by decide +kernel
theorem dX1_issue_50 : decode cX1_issue 50 = .ok (.iastore, 1) := by decide +kernel
theorem dX1_issue_51 : decode cX1_issue 51 = .ok (.aload_n 0, 1) := by decide +kernel
theorem dX1_issue_52 : decode cX1_issue 52 = .ok (.getfield 21, 3) := by decide +kernel
theorem dX1_issue_55 : decode cX1_issue 55 = .ok (.iload 7, 2) := by decide +kernel
theorem dX1_issue_57 : decode cX1_issue 57 = .ok (.iload 4, 2) := by decide +kernel
theorem dX1_issue_59 : decode cX1_issue 59 = .ok (.iastore, 1) := by decide +kernel
theorem dX1_issue_60 : decode cX1_issue 60 = .ok (.aload_n 0, 1) := by decide +kernel
theorem dX1_issue_61 : decode cX1_issue 61 = .ok (.getfield 24, 3) := by decide +kernel
theorem dX1_issue_64 : decode cX1_issue 64 = .ok (.iload 7, 2) := by decide +kernel
theorem dX1_issue_66 : decode cX1_issue 66 = .ok (.iload 5, 2) := by decide +kernel
theorem dX1_issue_68 : decode cX1_issue 68 = .ok (.iastore, 1) := by decide +kernel
theorem dX1_issue_69 : decode cX1_issue 69 = .ok (.aload_n 0, 1) := by decide +kernel
theorem dX1_issue_70 : decode cX1_issue 70 = .ok (.getfield 36, 3) := by decide +kernel
theorem dX1_issue_73 : decode cX1_issue 73 = .ok (.iload 7, 2) := by decide +kernel
theorem dX1_issue_75 : decode cX1_issue 75 = .ok (.iload 6, 2) := by decide +kernel
theorem dX1_issue_77 : decode cX1_issue 77 = .ok (.iastore, 1) := by decide +kernel
theorem dX1_issue_78 : decode cX1_issue 78 = .ok (.aload_n 0, 1) := by decide +kernel
theorem dX1_issue_79 : decode cX1_issue 79 = .ok (.getfield 27, 3) := by decide +kernel
theorem dX1_issue_82 : decode cX1_issue 82 = .ok (.iload 7, 2) := by decide +kernel
theorem dX1_issue_84 : decode cX1_issue 84 = .ok (.iconst 0, 1) := by decide +kernel
theorem dX1_issue_85 : decode cX1_issue 85 = .ok (.iastore, 1) := by decide +kernel
theorem dX1_issue_86 : decode cX1_issue 86 = .ok (.aload_n 0, 1) := by decide +kernel
theorem dX1_issue_87 : decode cX1_issue 87 = .ok (.getfield 30, 3) := by decide +kernel
theorem dX1_issue_90 : decode cX1_issue 90 = .ok (.iload 7, 2) := by decide +kernel
theorem dX1_issue_92 : decode cX1_issue 92 = .ok (.iconst 0, 1) := by decide +kernel
theorem dX1_issue_93 : decode cX1_issue 93 = .ok (.iastore, 1) := by decide +kernel
theorem dX1_issue_94 : decode cX1_issue 94 = .ok (.aload_n 0, 1) := by decide +kernel
theorem dX1_issue_95 : decode cX1_issue 95 = .ok (.getfield 33, 3) := by decide +kernel
theorem dX1_issue_98 : decode cX1_issue 98 = .ok (.iload 7, 2) := by decide +kernel
theorem dX1_issue_100 : decode cX1_issue 100 = .ok (.iconst (-1), 1) := by decide +kernel
theorem dX1_issue_101 : decode cX1_issue 101 = .ok (.iastore, 1) := by decide +kernel
theorem dX1_issue_102 : decode cX1_issue 102 = .ok (.aload_n 0, 1) := by decide +kernel
theorem dX1_issue_103 : decode cX1_issue 103 = .ok (.getfield 39, 3) := by decide +kernel
theorem dX1_issue_106 : decode cX1_issue 106 = .ok (.iload 7, 2) := by decide +kernel
theorem dX1_issue_108 : decode cX1_issue 108 = .ok (.iconst 0, 1) := by decide +kernel
theorem dX1_issue_109 : decode cX1_issue 109 = .ok (.iastore, 1) := by decide +kernel
theorem dX1_issue_110 : decode cX1_issue 110 = .ok (.iload 7, 2) := by decide +kernel
theorem dX1_issue_112 : decode cX1_issue 112 = .ok (.ireturn, 1) := by decide +kernel
theorem dX1_close_0 : decode cX1_close 0 = .ok (.aload_n 0, 1) := by decide +kernel
theorem dX1_close_1 : decode cX1_close 1 = .ok (.getfield 30, 3) := by decide +kernel
theorem dX1_close_4 : decode cX1_close 4 = .ok (.iload_n 1, 1) := by decide +kernel
theorem dX1_close_5 : decode cX1_close 5 = .ok (.iload_n 2, 1) := by decide +kernel
theorem dX1_close_6 : decode cX1_close 6 = .ok (.iastore, 1) := by decide +kernel
theorem dX1_close_7 : decode cX1_close 7 = .ok (.aload_n 0, 1) := by decide +kernel
theorem dX1_close_8 : decode cX1_close 8 = .ok (.getfield 33, 3) := by decide +kernel
theorem dX1_close_11 : decode cX1_close 11 = .ok (.iload_n 1, 1) := by decide +kernel
theorem dX1_close_12 : decode cX1_close 12 = .ok (.iload_n 3, 1) := by decide +kernel
theorem dX1_close_13 : decode cX1_close 13 = .ok (.iastore, 1) := by decide +kernel
theorem dX1_close_14 : decode cX1_close 14 = .ok (.return_, 1) := by decide +kernel
theorem dX1_closeIfUsedUp_0 : decode cX1_closeIfUsedUp 0 = .ok (.aload_n 0, 1) := by decide +kernel
theorem dX1_closeIfUsedUp_1 : decode cX1_closeIfUsedUp 1 = .ok (.iload_n 1, 1) := by decide +kernel
theorem dX1_closeIfUsedUp_2 : decode cX1_closeIfUsedUp 2 = .ok (.invokevirtual 60, 3) := by decide +kernel
theorem dX1_closeIfUsedUp_5 : decode cX1_closeIfUsedUp 5 = .ok (.ifCond .ne 10, 3) := by decide +kernel
theorem dX1_closeIfUsedUp_8 : decode cX1_closeIfUsedUp 8 = .ok (.aload_n 0, 1) := by decide +kernel
theorem dX1_closeIfUsedUp_9 : decode cX1_closeIfUsedUp 9 = .ok (.iload_n 1, 1) := by decide +kernel
theorem dX1_closeIfUsedUp_10 : decode cX1_closeIfUsedUp 10 = .ok (.iconst 1, 1) := by decide +kernel
theorem dX1_closeIfUsedUp_11 : decode cX1_closeIfUsedUp 11 = .ok (.iload_n 2, 1) := by decide +kernel
theorem dX1_closeIfUsedUp_12 : decode cX1_closeIfUsedUp 12 = .ok (.invokevirtual 64, 3) := by decide +kernel
theorem dX1_closeIfUsedUp_15 : decode cX1_closeIfUsedUp 15 = .ok (.return_, 1) := by decide +kernel
theorem dX1_handOn_0 : decode cX1_handOn 0 = .ok (.aload_n 0, 1) := by decide +kernel
theorem dX1_handOn_1 : decode cX1_handOn 1 = .ok (.iload_n 2, 1) := by decide +kernel
theorem dX1_handOn_2 : decode cX1_handOn 2 = .ok (.aload_n 0, 1) := by decide +kernel
theorem dX1_handOn_3 : decode cX1_handOn 3 = .ok (.getfield 15, 3) := by decide +kernel
theorem dX1_handOn_6 : decode cX1_handOn 6 = .ok (.iload_n 1, 1) := by decide +kernel
theorem dX1_handOn_7 : decode cX1_handOn 7 = .ok (.iaload, 1) := by decide +kernel
theorem dX1_handOn_8 : decode cX1_handOn 8 = .ok (.iload_n 3, 1) := by decide +kernel
theorem dX1_handOn_9 : decode cX1_handOn 9 = .ok (.aload_n 0, 1) := by decide +kernel
theorem dX1_handOn_10 : decode cX1_handOn 10 = .ok (.getfield 21, 3) := by decide +kernel
theorem dX1_handOn_13 : decode cX1_handOn 13 = .ok (.iload_n 1, 1) := by decide +kernel
theorem dX1_handOn_14 : decode cX1_handOn 14 = .ok (.iaload, 1) := by decide +kernel
theorem dX1_handOn_15 : decode cX1_handOn 15 = .ok (.aload_n 0, 1) := by decide +kernel
theorem dX1_handOn_16 : decode cX1_handOn 16 = .ok (.getfield 24, 3) := by decide +kernel
theorem dX1_handOn_19 : decode cX1_handOn 19 = .ok (.iload_n 1, 1) := by decide +kernel
theorem dX1_handOn_20 : decode cX1_handOn 20 = .ok (.iaload, 1) := by decide +kernel
theorem dX1_handOn_21 : decode cX1_handOn 21 = .ok (.iload_n 1, 1) := by decide +kernel
theorem dX1_handOn_22 : decode cX1_handOn 22 = .ok (.invokevirtual 68, 3) := by decide +kernel
theorem dX1_handOn_25 : decode cX1_handOn 25 = .ok (.istore 5, 2) := by decide +kernel
theorem dX1_handOn_27 : decode cX1_handOn 27 = .ok (.aload_n 0, 1) := by decide +kernel
theorem dX1_handOn_28 : decode cX1_handOn 28 = .ok (.getfield 18, 3) := by decide +kernel
theorem dX1_handOn_31 : decode cX1_handOn 31 = .ok (.iload_n 1, 1) := by decide +kernel
theorem dX1_handOn_32 : decode cX1_handOn 32 = .ok (.dup2, 1) := by decide +kernel
theorem dX1_handOn_33 : decode cX1_handOn 33 = .ok (.iaload, 1) := by decide +kernel
theorem dX1_handOn_34 : decode cX1_handOn 34 = .ok (.iload_n 3, 1) := by decide +kernel
theorem dX1_handOn_35 : decode cX1_handOn 35 = .ok (.isub, 1) := by decide +kernel
theorem dX1_handOn_36 : decode cX1_handOn 36 = .ok (.iastore, 1) := by decide +kernel
theorem dX1_handOn_37 : decode cX1_handOn 37 = .ok (.aload_n 0, 1) := by decide +kernel
theorem dX1_handOn_38 : decode cX1_handOn 38 = .ok (.iload_n 1, 1) := by decide +kernel
theorem dX1_handOn_39 : decode cX1_handOn 39 = .ok (.iload 4, 2) := by decide +kernel
theorem dX1_handOn_41 : decode cX1_handOn 41 = .ok (.invokevirtual 72, 3) := by decide +kernel
theorem dX1_handOn_44 : decode cX1_handOn 44 = .ok (.iload 5, 2) := by decide +kernel
theorem dX1_handOn_46 : decode cX1_handOn 46 = .ok (.ireturn, 1) := by decide +kernel
theorem dX1_takeOver_0 : decode cX1_takeOver 0 = .ok (.aload_n 0, 1) := by decide +kernel
theorem dX1_takeOver_1 : decode cX1_takeOver 1 = .ok (.getfield 18, 3) := by decide +kernel
theorem dX1_takeOver_4 : decode cX1_takeOver 4 = .ok (.iload_n 1, 1) := by decide +kernel
theorem dX1_takeOver_5 : decode cX1_takeOver 5 = .ok (.dup2, 1) := by decide +kernel
theorem dX1_takeOver_6 : decode cX1_takeOver 6 = .ok (.iaload, 1) := by decide +kernel
theorem dX1_takeOver_7 : decode cX1_takeOver 7 = .ok (.aload_n 0, 1) := by decide +kernel
theorem dX1_takeOver_8 : decode cX1_takeOver 8 = .ok (.getfield 18, 3) := by decide +kernel
theorem dX1_takeOver_11 : decode cX1_takeOver 11 = .ok (.iload_n 2, 1) := by decide +kernel
theorem dX1_takeOver_12 : decode cX1_takeOver 12 = .ok (.iaload, 1) := by decide +kernel
theorem dX1_takeOver_13 : decode cX1_takeOver 13 = .ok (.iadd, 1) := by decide +kernel
theorem dX1_takeOver_14 : decode cX1_takeOver 14 = .ok (.iastore, 1) := by decide +kernel
theorem dX1_takeOver_15 : decode cX1_takeOver 15 = .ok (.aload_n 0, 1) := by decide +kernel
theorem dX1_takeOver_16 : decode cX1_takeOver 16 = .ok (.getfield 27, 3) := by decide +kernel
theorem dX1_takeOver_19 : decode cX1_takeOver 19 = .ok (.iload_n 1, 1) := by decide +kernel
theorem dX1_takeOver_20 : decode cX1_takeOver 20 = .ok (.dup2, 1) := by decide +kernel
theorem dX1_takeOver_21 : decode cX1_takeOver 21 = .ok (.iaload, 1) := by decide +kernel
theorem dX1_takeOver_22 : decode cX1_takeOver 22 = .ok (.aload_n 0, 1) := by decide +kernel
theorem dX1_takeOver_23 : decode cX1_takeOver 23 = .ok (.getfield 27, 3) := by decide +kernel
theorem dX1_takeOver_26 : decode cX1_takeOver 26 = .ok (.iload_n 2, 1) := by decide +kernel
theorem dX1_takeOver_27 : decode cX1_takeOver 27 = .ok (.iaload, 1) := by decide +kernel
theorem dX1_takeOver_28 : decode cX1_takeOver 28 = .ok (.iadd, 1) := by decide +kernel
theorem dX1_takeOver_29 : decode cX1_takeOver 29 = .ok (.iastore, 1) := by decide +kernel
theorem dX1_takeOver_30 : decode cX1_takeOver 30 = .ok (.aload_n 0, 1) := by decide +kernel
theorem dX1_takeOver_31 : decode cX1_takeOver 31 = .ok (.getfield 39, 3) := by decide +kernel
theorem dX1_takeOver_34 : decode cX1_takeOver 34 = .ok (.iload_n 1, 1) := by decide +kernel
theorem dX1_takeOver_35 : decode cX1_takeOver 35 = .ok (.dup2, 1) := by decide +kernel
theorem dX1_takeOver_36 : decode cX1_takeOver 36 = .ok (.iaload, 1) := by decide +kernel
theorem dX1_takeOver_37 : decode cX1_takeOver 37 = .ok (.aload_n 0, 1) := by decide +kernel
theorem dX1_takeOver_38 : decode cX1_takeOver 38 = .ok (.getfield 39, 3) := by decide +kernel
theorem dX1_takeOver_41 : decode cX1_takeOver 41 = .ok (.iload_n 2, 1) := by decide +kernel
theorem dX1_takeOver_42 : decode cX1_takeOver 42 = .ok (.iaload, 1) := by decide +kernel
theorem dX1_takeOver_43 : decode cX1_takeOver 43 = .ok (.iadd, 1) := by decide +kernel
theorem dX1_takeOver_44 : decode cX1_takeOver 44 = .ok (.iastore, 1) := by decide +kernel
theorem dX1_takeOver_45 : decode cX1_takeOver 45 = .ok (.aload_n 0, 1) := by decide +kernel
theorem dX1_takeOver_46 : decode cX1_takeOver 46 = .ok (.getfield 18, 3) := by decide +kernel
theorem dX1_takeOver_49 : decode cX1_takeOver 49 = .ok (.iload_n 2, 1) := by decide +kernel
theorem dX1_takeOver_50 : decode cX1_takeOver 50 = .ok (.iconst 0, 1) := by decide +kernel
theorem dX1_takeOver_51 : decode cX1_takeOver 51 = .ok (.iastore, 1) := by decide +kernel
theorem dX1_takeOver_52 : decode cX1_takeOver 52 = .ok (.aload_n 0, 1) := by decide +kernel
theorem dX1_takeOver_53 : decode cX1_takeOver 53 = .ok (.getfield 27, 3) := by decide +kernel
theorem dX1_takeOver_56 : decode cX1_takeOver 56 = .ok (.iload_n 2, 1) := by decide +kernel
theorem dX1_takeOver_57 : decode cX1_takeOver 57 = .ok (.iconst 0, 1) := by decide +kernel
theorem dX1_takeOver_58 : decode cX1_takeOver 58 = .ok (.iastore, 1) := by decide +kernel
theorem dX1_takeOver_59 : decode cX1_takeOver 59 = .ok (.aload_n 0, 1) := by decide +kernel
theorem dX1_takeOver_60 : decode cX1_takeOver 60 = .ok (.getfield 39, 3) := by decide +kernel
theorem dX1_takeOver_63 : decode cX1_takeOver 63 = .ok (.iload_n 2, 1) := by decide +kernel
theorem dX1_takeOver_64 : decode cX1_takeOver 64 = .ok (.iconst 0, 1) := by decide +kernel
theorem dX1_takeOver_65 : decode cX1_takeOver 65 = .ok (.iastore, 1) := by decide +kernel
theorem dX1_takeOver_66 : decode cX1_takeOver 66 = .ok (.aload_n 0, 1) := by decide +kernel
theorem dX1_takeOver_67 : decode cX1_takeOver 67 = .ok (.iload_n 2, 1) := by decide +kernel
theorem dX1_takeOver_68 : decode cX1_takeOver 68 = .ok (.iconst 1, 1) := by decide +kernel
theorem dX1_takeOver_69 : decode cX1_takeOver 69 = .ok (.iload_n 3, 1) := by decide +kernel
theorem dX1_takeOver_70 : decode cX1_takeOver 70 = .ok (.invokevirtual 64, 3) := by decide +kernel
theorem dX1_takeOver_73 : decode cX1_takeOver 73 = .ok (.return_, 1) := by decide +kernel
theorem dX1_openOnes_0 : decode cX1_openOnes 0 = .ok (.iconst 0, 1) := by decide +kernel
theorem dX1_openOnes_1 : decode cX1_openOnes 1 = .ok (.istore_n 1, 1) := by decide +kernel
theorem dX1_openOnes_2 : decode cX1_openOnes 2 = .ok (.iconst 0, 1) := by decide +kernel
theorem dX1_openOnes_3 : decode cX1_openOnes 3 = .ok (.istore_n 2, 1) := by decide +kernel
theorem dX1_openOnes_4 : decode cX1_openOnes 4 = .ok (.iload_n 2, 1) := by decide +kernel
theorem dX1_openOnes_5 : decode cX1_openOnes 5 = .ok (.aload_n 0, 1) := by decide +kernel
theorem dX1_openOnes_6 : decode cX1_openOnes 6 = .ok (.getfield 42, 3) := by decide +kernel
theorem dX1_openOnes_9 : decode cX1_openOnes 9 = .ok (.if_icmp .ge 25, 3) := by decide +kernel
theorem dX1_openOnes_12 : decode cX1_openOnes 12 = .ok (.iload_n 1, 1) := by decide +kernel
theorem dX1_openOnes_13 : decode cX1_openOnes 13 = .ok (.aload_n 0, 1) := by decide +kernel
theorem dX1_openOnes_14 : decode cX1_openOnes 14 = .ok (.iload_n 2, 1) := by decide +kernel
theorem dX1_openOnes_15 : decode cX1_openOnes 15 = .ok (.invokevirtual 52, 3) := by decide +kernel
theorem dX1_openOnes_18 : decode cX1_openOnes 18 = .ok (.ifCond .eq 7, 3) := by decide +kernel
theorem dX1_openOnes_21 : decode cX1_openOnes 21 = .ok (.iconst 1, 1) := by decide +kernel
theorem dX1_openOnes_22 : decode cX1_openOnes 22 = .ok (.goto 4, 3) := by decide +kernel
theorem dX1_openOnes_25 : decode cX1_openOnes 25 = .ok (.iconst 0, 1) := by decide +kernel
theorem dX1_openOnes_26 : decode cX1_openOnes 26 = .ok (.iadd, 1) := by decide +kernel
theorem dX1_openOnes_27 : decode cX1_openOnes 27 = .ok (.istore_n 1, 1) := by decide +kernel
theorem dX1_openOnes_28 : decode cX1_openOnes 28 = .ok (.iinc 2 1, 3) := by decide +kernel
theorem dX1_openOnes_31 : decode cX1_openOnes 31 = .ok (.goto (-27), 3) := by decide +kernel
theorem dX1_openOnes_34 : decode cX1_openOnes 34 = .ok (.iload_n 1, 1) := by decide +kernel
theorem dX1_openOnes_35 : decode cX1_openOnes 35 = .ok (.ireturn, 1) := by decide +kernel
theorem dX1_openAhead_0 : decode cX1_openAhead 0 = .ok (.iconst 0, 1) := by decide +kernel
theorem dX1_openAhead_1 : decode cX1_openAhead 1 = .ok (.istore_n 2, 1) := by decide +kernel
theorem dX1_openAhead_2 : decode cX1_openAhead 2 = .ok (.iconst 0, 1) := by decide +kernel
theorem dX1_openAhead_3 : decode cX1_openAhead 3 = .ok (.istore_n 3, 1) := by decide +kernel
theorem dX1_openAhead_4 : decode cX1_openAhead 4 = .ok (.iload_n 3, 1) := by decide +kernel
theorem dX1_openAhead_5 : decode cX1_openAhead 5 = .ok (.aload_n 0, 1) := by decide +kernel
theorem dX1_openAhead_6 : decode cX1_openAhead 6 = .ok (.getfield 42, 3) := by decide +kernel
theorem dX1_openAhead_9 : decode cX1_openAhead 9 = .ok (.if_icmp .ge 72, 3) := by decide +kernel
theorem dX1_openAhead_12 : decode cX1_openAhead 12 = .ok (.aload_n 0, 1) := by decide +kernel
theorem dX1_openAhead_13 : decode cX1_openAhead 13 = .ok (.getfield 24, 3) := by decide +kernel
theorem dX1_openAhead_16 : decode cX1_openAhead 16 = .ok (.iload_n 3, 1) := by decide +kernel
theorem dX1_openAhead_17 : decode cX1_openAhead 17 = .ok (.iaload, 1) := by decide +kernel
theorem dX1_openAhead_18 : decode cX1_openAhead 18 = .ok (.aload_n 0, 1) := by decide +kernel
theorem dX1_openAhead_19 : decode cX1_openAhead 19 = .ok (.getfield 24, 3) := by decide +kernel
theorem dX1_openAhead_22 : decode cX1_openAhead 22 = .ok (.iload_n 1, 1) := by decide +kernel
theorem dX1_openAhead_23 : decode cX1_openAhead 23 = .ok (.iaload, 1) := by decide +kernel
theorem dX1_openAhead_24 : decode cX1_openAhead 24 = .ok (.if_icmp .lt 23, 3) := by decide +kernel
theorem dX1_openAhead_27 : decode cX1_openAhead 27 = .ok (.aload_n 0, 1) := by decide +kernel
theorem dX1_openAhead_28 : decode cX1_openAhead 28 = .ok (.getfield 24, 3) := by decide +kernel
theorem dX1_openAhead_31 : decode cX1_openAhead 31 = .ok (.iload_n 3, 1) := by decide +kernel
theorem dX1_openAhead_32 : decode cX1_openAhead 32 = .ok (.iaload, 1) := by decide +kernel
theorem dX1_openAhead_33 : decode cX1_openAhead 33 = .ok (.aload_n 0, 1) := by decide +kernel
theorem dX1_openAhead_34 : decode cX1_openAhead 34 = .ok (.getfield 24, 3) := by decide +kernel
theorem dX1_openAhead_37 : decode cX1_openAhead 37 = .ok (.iload_n 1, 1) := by decide +kernel
theorem dX1_openAhead_38 : decode cX1_openAhead 38 = .ok (.iaload, 1) := by decide +kernel
theorem dX1_openAhead_39 : decode cX1_openAhead 39 = .ok (.if_icmp .ne 12, 3) := by decide +kernel
theorem dX1_openAhead_42 : decode cX1_openAhead 42 = .ok (.iload_n 3, 1) := by decide +kernel
theorem dX1_openAhead_43 : decode cX1_openAhead 43 = .ok (.iload_n 1, 1) := by decide +kernel
theorem dX1_openAhead_44 : decode cX1_openAhead 44 = .ok (.if_icmp .ge 7, 3) := by decide +kernel
theorem dX1_openAhead_47 : decode cX1_openAhead 47 = .ok (.iconst 1, 1) := by decide +kernel
theorem dX1_openAhead_48 : decode cX1_openAhead 48 = .ok (.goto 4, 3) := by decide +kernel
theorem dX1_openAhead_51 : decode cX1_openAhead 51 = .ok (.iconst 0, 1) := by decide +kernel
theorem dX1_openAhead_52 : decode cX1_openAhead 52 = .ok (.istore 4, 2) := by decide +kernel
theorem dX1_openAhead_54 : decode cX1_openAhead 54 = .ok (.iload_n 2, 1) := by decide +kernel
theorem dX1_openAhead_55 : decode cX1_openAhead 55 = .ok (.aload_n 0, 1) := by decide +kernel
theorem dX1_openAhead_56 : decode cX1_openAhead 56 = .ok (.iload_n 3, 1) := by decide +kernel
theorem dX1_openAhead_57 : decode cX1_openAhead 57 = .ok (.invokevirtual 52, 3) := by decide +kernel
theorem dX1_openAhead_60 : decode cX1_openAhead 60 = .ok (.ifCond .eq 12, 3) := by decide +kernel
theorem dX1_openAhead_63 : decode cX1_openAhead 63 = .ok (.iload 4, 2) := by decide +kernel
theorem dX1_openAhead_65 : decode cX1_openAhead 65 = .ok (.ifCond .eq 7, 3) := by decide +kernel
theorem dX1_openAhead_68 : decode cX1_openAhead 68 = .ok (.iconst 1, 1) := by decide +kernel
theorem dX1_openAhead_69 : decode cX1_openAhead 69 = .ok (.goto 4, 3) := by decide +kernel
theorem dX1_openAhead_72 : decode cX1_openAhead 72 = .ok (.iconst 0, 1) := by decide +kernel
theorem dX1_openAhead_73 : decode cX1_openAhead 73 = .ok (.iadd, 1) := by decide +kernel
theorem dX1_openAhead_74 : decode cX1_openAhead 74 = .ok (.istore_n 2, 1) := by decide +kernel
theorem dX1_openAhead_75 : decode cX1_openAhead 75 = .ok (.iinc 3 1, 3) := by decide +kernel
theorem dX1_openAhead_78 : decode cX1_openAhead 78 = .ok (.goto (-74), 3) := by decide +kernel
theorem dX1_openAhead_81 : decode cX1_openAhead 81 = .ok (.iload_n 2, 1) := by decide +kernel
theorem dX1_openAhead_82 : decode cX1_openAhead 82 = .ok (.ireturn, 1) := by decide +kernel
theorem dX1_endedLast_0 : decode cX1_endedLast 0 = .ok (.iconst (-1), 1) := by decide +kernel
theorem dX1_endedLast_1 : decode cX1_endedLast 1 = .ok (.istore_n 3, 1) := by decide +kernel
theorem dX1_endedLast_2 : decode cX1_endedLast 2 = .ok (.iconst 0, 1) := by decide +kernel
theorem dX1_endedLast_3 : decode cX1_endedLast 3 = .ok (.istore 4, 2) := by decide +kernel
theorem dX1_endedLast_5 : decode cX1_endedLast 5 = .ok (.iload 4, 2) := by decide +kernel
theorem dX1_endedLast_7 : decode cX1_endedLast 7 = .ok (.aload_n 0, 1) := by decide +kernel
theorem dX1_endedLast_8 : decode cX1_endedLast 8 = .ok (.getfield 42, 3) := by decide +kernel
theorem dX1_endedLast_11 : decode cX1_endedLast 11 = .ok (.if_icmp .ge 53, 3) := by decide +kernel
theorem dX1_endedLast_14 : decode cX1_endedLast 14 = .ok (.aload_n 0, 1) := by decide +kernel
theorem dX1_endedLast_15 : decode cX1_endedLast 15 = .ok (.iload 4, 2) := by decide +kernel
theorem dX1_endedLast_17 : decode cX1_endedLast 17 = .ok (.invokevirtual 52, 3) := by decide +kernel
theorem dX1_endedLast_20 : decode cX1_endedLast 20 = .ok (.ifCond .ne 38, 3) := by decide +kernel
theorem dX1_endedLast_23 : decode cX1_endedLast 23 = .ok (.aload_n 0, 1) := by decide +kernel
theorem dX1_endedLast_24 : decode cX1_endedLast 24 = .ok (.iload 4, 2) := by decide +kernel
theorem dX1_endedLast_26 : decode cX1_endedLast 26 = .ok (.iload_n 1, 1) := by decide +kernel
theorem dX1_endedLast_27 : decode cX1_endedLast 27 = .ok (.iload_n 2, 1) := by decide +kernel
theorem dX1_endedLast_28 : decode cX1_endedLast 28 = .ok (.invokevirtual 56, 3) := by decide +kernel
theorem dX1_endedLast_31 : decode cX1_endedLast 31 = .ok (.ifCond .eq 27, 3) := by decide +kernel
theorem dX1_endedLast_34 : decode cX1_endedLast 34 = .ok (.iload_n 3, 1) := by decide +kernel
theorem dX1_endedLast_35 : decode cX1_endedLast 35 = .ok (.iconst (-1), 1) := by decide +kernel
theorem dX1_endedLast_36 : decode cX1_endedLast 36 = .ok (.if_icmp .eq 19, 3) := by decide +kernel
theorem dX1_endedLast_39 : decode cX1_endedLast 39 = .ok (.aload_n 0, 1) := by decide +kernel
theorem dX1_endedLast_40 : decode cX1_endedLast 40 = .ok (.getfield 33, 3) := by decide +kernel
theorem dX1_endedLast_43 : decode cX1_endedLast 43 = .ok (.iload 4, 2) := by decide +kernel
theorem dX1_endedLast_45 : decode cX1_endedLast 45 = .ok (.iaload, 1) := by decide +kernel
theorem dX1_endedLast_46 : decode cX1_endedLast 46 = .ok (.aload_n 0, 1) := by decide +kernel
theorem dX1_endedLast_47 : decode cX1_endedLast 47 = .ok (.getfield 33, 3) := by decide +kernel
theorem dX1_endedLast_50 : decode cX1_endedLast 50 = .ok (.iload_n 3, 1) := by decide +kernel
theorem dX1_endedLast_51 : decode cX1_endedLast 51 = .ok (.iaload, 1) := by decide +kernel
theorem dX1_endedLast_52 : decode cX1_endedLast 52 = .ok (.if_icmp .lt 6, 3) := by decide +kernel
theorem dX1_endedLast_55 : decode cX1_endedLast 55 = .ok (.iload 4, 2) := by decide +kernel
theorem dX1_endedLast_57 : decode cX1_endedLast 57 = .ok (.istore_n 3, 1) := by decide +kernel
theorem dX1_endedLast_58 : decode cX1_endedLast 58 = .ok (.iinc 4 1, 3) := by decide +kernel
theorem dX1_endedLast_61 : decode cX1_endedLast 61 = .ok (.goto (-56), 3) := by decide +kernel
theorem dX1_endedLast_64 : decode cX1_endedLast 64 = .ok (.iload_n 3, 1) := by decide +kernel
theorem dX1_endedLast_65 : decode cX1_endedLast 65 = .ok (.ireturn, 1) := by decide +kernel
theorem dX1_rateOf_0 : decode cX1_rateOf 0 = .ok (.iconst 0, 1) := by decide +kernel
theorem dX1_rateOf_1 : decode cX1_rateOf 1 = .ok (.istore_n 2, 1) := by decide +kernel
theorem dX1_rateOf_2 : decode cX1_rateOf 2 = .ok (.iconst 0, 1) := by decide +kernel
theorem dX1_rateOf_3 : decode cX1_rateOf 3 = .ok (.istore_n 3, 1) := by decide +kernel
theorem dX1_rateOf_4 : decode cX1_rateOf 4 = .ok (.iconst 0, 1) := by decide +kernel
theorem dX1_rateOf_5 : decode cX1_rateOf 5 = .ok (.istore 4, 2) := by decide +kernel
theorem dX1_rateOf_7 : decode cX1_rateOf 7 = .ok (.iload 4, 2) := by decide +kernel
theorem dX1_rateOf_9 : decode cX1_rateOf 9 = .ok (.aload_n 0, 1) := by decide +kernel
theorem dX1_rateOf_10 : decode cX1_rateOf 10 = .ok (.getfield 42, 3) := by decide +kernel
theorem dX1_rateOf_13 : decode cX1_rateOf 13 = .ok (.if_icmp .ge 49, 3) := by decide +kernel
theorem dX1_rateOf_16 : decode cX1_rateOf 16 = .ok (.aload_n 0, 1) := by decide +kernel
theorem dX1_rateOf_17 : decode cX1_rateOf 17 = .ok (.iload 4, 2) := by decide +kernel
theorem dX1_rateOf_19 : decode cX1_rateOf 19 = .ok (.invokevirtual 52, 3) := by decide +kernel
theorem dX1_rateOf_22 : decode cX1_rateOf 22 = .ok (.ifCond .ne 34, 3) := by decide +kernel
theorem dX1_rateOf_25 : decode cX1_rateOf 25 = .ok (.aload_n 0, 1) := by decide +kernel
theorem dX1_rateOf_26 : decode cX1_rateOf 26 = .ok (.getfield 9, 3) := by decide +kernel
theorem dX1_rateOf_29 : decode cX1_rateOf 29 = .ok (.iload 4, 2) := by decide +kernel
theorem dX1_rateOf_31 : decode cX1_rateOf 31 = .ok (.iaload, 1) := by decide +kernel
theorem dX1_rateOf_32 : decode cX1_rateOf 32 = .ok (.iload_n 1, 1) := by decide +kernel
theorem dX1_rateOf_33 : decode cX1_rateOf 33 = .ok (.if_icmp .ne 23, 3) := by decide +kernel
theorem dX1_rateOf_36 : decode cX1_rateOf 36 = .ok (.iload_n 2, 1) := by decide +kernel
theorem dX1_rateOf_37 : decode cX1_rateOf 37 = .ok (.aload_n 0, 1) := by decide +kernel
theorem dX1_rateOf_38 : decode cX1_rateOf 38 = .ok (.getfield 18, 3) := by decide +kernel
theorem dX1_rateOf_41 : decode cX1_rateOf 41 = .ok (.iload 4, 2) := by decide +kernel
theorem dX1_rateOf_43 : decode cX1_rateOf 43 = .ok (.iaload, 1) := by decide +kernel
theorem dX1_rateOf_44 : decode cX1_rateOf 44 = .ok (.iadd, 1) := by decide +kernel
theorem dX1_rateOf_45 : decode cX1_rateOf 45 = .ok (.istore_n 2, 1) := by decide +kernel
theorem dX1_rateOf_46 : decode cX1_rateOf 46 = .ok (.iload_n 3, 1) := by decide +kernel
theorem dX1_rateOf_47 : decode cX1_rateOf 47 = .ok (.aload_n 0, 1) := by decide +kernel
theorem dX1_rateOf_48 : decode cX1_rateOf 48 = .ok (.getfield 27, 3) := by decide +kernel
theorem dX1_rateOf_51 : decode cX1_rateOf 51 = .ok (.iload 4, 2) := by decide +kernel
theorem dX1_rateOf_53 : decode cX1_rateOf 53 = .ok (.iaload, 1) := by decide +kernel
theorem dX1_rateOf_54 : decode cX1_rateOf 54 = .ok (.iadd, 1) := by decide +kernel
theorem dX1_rateOf_55 : decode cX1_rateOf 55 = .ok (.istore_n 3, 1) := by decide +kernel
theorem dX1_rateOf_56 : decode cX1_rateOf 56 = .ok (.iinc 4 1, 3) := by decide +kernel
theorem dX1_rateOf_59 : decode cX1_rateOf 59 = .ok (.goto (-52), 3) := by decide +kernel
theorem dX1_rateOf_62 : decode cX1_rateOf 62 = .ok (.iload_n 2, 1) := by decide +kernel
theorem dX1_rateOf_63 : decode cX1_rateOf 63 = .ok (.ifCond .le 11, 3) := by decide +kernel
theorem dX1_rateOf_66 : decode cX1_rateOf 66 = .ok (.iload_n 3, 1) := by decide +kernel
theorem dX1_rateOf_67 : decode cX1_rateOf 67 = .ok (.i2d, 1) := by decide +kernel
theorem dX1_rateOf_68 : decode cX1_rateOf 68 = .ok (.iload_n 2, 1) := by decide +kernel
theorem dX1_rateOf_69 : decode cX1_rateOf 69 = .ok (.i2d, 1) := by decide +kernel
theorem dX1_rateOf_70 : decode cX1_rateOf 70 = .ok (.ddiv, 1) := by decide +kernel
theorem dX1_rateOf_71 : decode cX1_rateOf 71 = .ok (.goto 6, 3) := by decide +kernel
theorem dX1_rateOf_74 : decode cX1_rateOf 74 = .ok (.ldc2_w 76, 3) := by decide +kernel
theorem dX1_rateOf_77 : decode cX1_rateOf 77 = .ok (.dreturn, 1) := by decide +kernel
theorem dX1_usedBy_0 : decode cX1_usedBy 0 = .ok (.iconst 0, 1) := by decide +kernel
theorem dX1_usedBy_1 : decode cX1_usedBy 1 = .ok (.istore_n 3, 1) := by decide +kernel
theorem dX1_usedBy_2 : decode cX1_usedBy 2 = .ok (.iconst 0, 1) := by decide +kernel
theorem dX1_usedBy_3 : decode cX1_usedBy 3 = .ok (.istore 4, 2) := by decide +kernel
theorem dX1_usedBy_5 : decode cX1_usedBy 5 = .ok (.iload 4, 2) := by decide +kernel
theorem dX1_usedBy_7 : decode cX1_usedBy 7 = .ok (.aload_n 0, 1) := by decide +kernel
theorem dX1_usedBy_8 : decode cX1_usedBy 8 = .ok (.getfield 42, 3) := by decide +kernel
theorem dX1_usedBy_11 : decode cX1_usedBy 11 = .ok (.if_icmp .ge 34, 3) := by decide +kernel
theorem dX1_usedBy_14 : decode cX1_usedBy 14 = .ok (.iload_n 3, 1) := by decide +kernel
theorem dX1_usedBy_15 : decode cX1_usedBy 15 = .ok (.aload_n 0, 1) := by decide +kernel
theorem dX1_usedBy_16 : decode cX1_usedBy 16 = .ok (.iload 4, 2) := by decide +kernel
theorem dX1_usedBy_18 : decode cX1_usedBy 18 = .ok (.iload_n 1, 1) := by decide +kernel
theorem dX1_usedBy_19 : decode cX1_usedBy 19 = .ok (.iload_n 2, 1) := by decide +kernel
theorem dX1_usedBy_20 : decode cX1_usedBy 20 = .ok (.invokevirtual 56, 3) := by decide +kernel
theorem dX1_usedBy_23 : decode cX1_usedBy 23 = .ok (.ifCond .eq 13, 3) := by decide +kernel
theorem dX1_usedBy_26 : decode cX1_usedBy 26 = .ok (.aload_n 0, 1) := by decide +kernel
theorem dX1_usedBy_27 : decode cX1_usedBy 27 = .ok (.getfield 27, 3) := by decide +kernel
theorem dX1_usedBy_30 : decode cX1_usedBy 30 = .ok (.iload 4, 2) := by decide +kernel
theorem dX1_usedBy_32 : decode cX1_usedBy 32 = .ok (.iaload, 1) := by decide +kernel
theorem dX1_usedBy_33 : decode cX1_usedBy 33 = .ok (.goto 4, 3) := by decide +kernel
theorem dX1_usedBy_36 : decode cX1_usedBy 36 = .ok (.iconst 0, 1) := by decide +kernel
theorem dX1_usedBy_37 : decode cX1_usedBy 37 = .ok (.iadd, 1) := by decide +kernel
theorem dX1_usedBy_38 : decode cX1_usedBy 38 = .ok (.istore_n 3, 1) := by decide +kernel
theorem dX1_usedBy_39 : decode cX1_usedBy 39 = .ok (.iinc 4 1, 3) := by decide +kernel
theorem dX1_usedBy_42 : decode cX1_usedBy 42 = .ok (.goto (-37), 3) := by decide +kernel
theorem dX1_usedBy_45 : decode cX1_usedBy 45 = .ok (.iload_n 3, 1) := by decide +kernel
theorem dX1_usedBy_46 : decode cX1_usedBy 46 = .ok (.ireturn, 1) := by decide +kernel
theorem dX1_waitedBy_0 : decode cX1_waitedBy 0 = .ok (.iconst 0, 1) := by decide +kernel
theorem dX1_waitedBy_1 : decode cX1_waitedBy 1 = .ok (.istore_n 3, 1) := by decide +kernel
theorem dX1_waitedBy_2 : decode cX1_waitedBy 2 = .ok (.iconst 0, 1) := by decide +kernel
theorem dX1_waitedBy_3 : decode cX1_waitedBy 3 = .ok (.istore 4, 2) := by decide +kernel
theorem dX1_waitedBy_5 : decode cX1_waitedBy 5 = .ok (.iload 4, 2) := by decide +kernel
theorem dX1_waitedBy_7 : decode cX1_waitedBy 7 = .ok (.aload_n 0, 1) := by decide +kernel
theorem dX1_waitedBy_8 : decode cX1_waitedBy 8 = .ok (.getfield 42, 3) := by decide +kernel
theorem dX1_waitedBy_11 : decode cX1_waitedBy 11 = .ok (.if_icmp .ge 34, 3) := by decide +kernel
theorem dX1_waitedBy_14 : decode cX1_waitedBy 14 = .ok (.iload_n 3, 1) := by decide +kernel
theorem dX1_waitedBy_15 : decode cX1_waitedBy 15 = .ok (.aload_n 0, 1) := by decide +kernel
theorem dX1_waitedBy_16 : decode cX1_waitedBy 16 = .ok (.iload 4, 2) := by decide +kernel
theorem dX1_waitedBy_18 : decode cX1_waitedBy 18 = .ok (.iload_n 1, 1) := by decide +kernel
theorem dX1_waitedBy_19 : decode cX1_waitedBy 19 = .ok (.iload_n 2, 1) := by decide +kernel
theorem dX1_waitedBy_20 : decode cX1_waitedBy 20 = .ok (.invokevirtual 56, 3) := by decide +kernel
theorem dX1_waitedBy_23 : decode cX1_waitedBy 23 = .ok (.ifCond .eq 13, 3) := by decide +kernel
theorem dX1_waitedBy_26 : decode cX1_waitedBy 26 = .ok (.aload_n 0, 1) := by decide +kernel
theorem dX1_waitedBy_27 : decode cX1_waitedBy 27 = .ok (.getfield 39, 3) := by decide +kernel
theorem dX1_waitedBy_30 : decode cX1_waitedBy 30 = .ok (.iload 4, 2) := by decide +kernel
theorem dX1_waitedBy_32 : decode cX1_waitedBy 32 = .ok (.iaload, 1) := by decide +kernel
theorem dX1_waitedBy_33 : decode cX1_waitedBy 33 = .ok (.goto 4, 3) := by decide +kernel
theorem dX1_waitedBy_36 : decode cX1_waitedBy 36 = .ok (.iconst 0, 1) := by decide +kernel
theorem dX1_waitedBy_37 : decode cX1_waitedBy 37 = .ok (.iadd, 1) := by decide +kernel
theorem dX1_waitedBy_38 : decode cX1_waitedBy 38 = .ok (.istore_n 3, 1) := by decide +kernel
theorem dX1_waitedBy_39 : decode cX1_waitedBy 39 = .ok (.iinc 4 1, 3) := by decide +kernel
theorem dX1_waitedBy_42 : decode cX1_waitedBy 42 = .ok (.goto (-37), 3) := by decide +kernel
theorem dX1_waitedBy_45 : decode cX1_waitedBy 45 = .ok (.iload_n 3, 1) := by decide +kernel
theorem dX1_waitedBy_46 : decode cX1_waitedBy 46 = .ok (.ireturn, 1) := by decide +kernel
theorem dX1_openOnesOf_0 : decode cX1_openOnesOf 0 = .ok (.iconst 0, 1) := by decide +kernel
theorem dX1_openOnesOf_1 : decode cX1_openOnesOf 1 = .ok (.istore_n 2, 1) := by decide +kernel
theorem dX1_openOnesOf_2 : decode cX1_openOnesOf 2 = .ok (.iconst 0, 1) := by decide +kernel
theorem dX1_openOnesOf_3 : decode cX1_openOnesOf 3 = .ok (.istore_n 3, 1) := by decide +kernel
theorem dX1_openOnesOf_4 : decode cX1_openOnesOf 4 = .ok (.iload_n 3, 1) := by decide +kernel
theorem dX1_openOnesOf_5 : decode cX1_openOnesOf 5 = .ok (.aload_n 0, 1) := by decide +kernel
theorem dX1_openOnesOf_6 : decode cX1_openOnesOf 6 = .ok (.getfield 42, 3) := by decide +kernel
theorem dX1_openOnesOf_9 : decode cX1_openOnesOf 9 = .ok (.if_icmp .ge 35, 3) := by decide +kernel
theorem dX1_openOnesOf_12 : decode cX1_openOnesOf 12 = .ok (.iload_n 2, 1) := by decide +kernel
theorem dX1_openOnesOf_13 : decode cX1_openOnesOf 13 = .ok (.aload_n 0, 1) := by decide +kernel
theorem dX1_openOnesOf_14 : decode cX1_openOnesOf 14 = .ok (.iload_n 3, 1) := by decide +kernel
theorem dX1_openOnesOf_15 : decode cX1_openOnesOf 15 = .ok (.invokevirtual 52, 3) := by decide +kernel
theorem dX1_openOnesOf_18 : decode cX1_openOnesOf 18 = .ok (.ifCond .eq 17, 3) := by decide +kernel
theorem dX1_openOnesOf_21 : decode cX1_openOnesOf 21 = .ok (.aload_n 0, 1) := by decide +kernel
theorem dX1_openOnesOf_22 : decode cX1_openOnesOf 22 = .ok (.getfield 9, 3) := by decide +kernel
theorem dX1_openOnesOf_25 : decode cX1_openOnesOf 25 = .ok (.iload_n 3, 1) := by decide +kernel
theorem dX1_openOnesOf_26 : decode cX1_openOnesOf 26 = .ok (.iaload, 1) := by decide +kernel
theorem dX1_openOnesOf_27 : decode cX1_openOnesOf 27 = .ok (.iload_n 1, 1) := by decide +kernel
theorem dX1_openOnesOf_28 : decode cX1_openOnesOf 28 = .ok (.if_icmp .ne 7, 3) := by decide +kernel
theorem dX1_openOnesOf_31 : decode cX1_openOnesOf 31 = .ok (.iconst 1, 1) := by decide +kernel
theorem dX1_openOnesOf_32 : decode cX1_openOnesOf 32 = .ok (.goto 4, 3) := by decide +kernel
theorem dX1_openOnesOf_35 : decode cX1_openOnesOf 35 = .ok (.iconst 0, 1) := by decide +kernel
theorem dX1_openOnesOf_36 : decode cX1_openOnesOf 36 = .ok (.iadd, 1) := by decide +kernel
theorem dX1_openOnesOf_37 : decode cX1_openOnesOf 37 = .ok (.istore_n 2, 1) := by decide +kernel
theorem dX1_openOnesOf_38 : decode cX1_openOnesOf 38 = .ok (.iinc 3 1, 3) := by decide +kernel
theorem dX1_openOnesOf_41 : decode cX1_openOnesOf 41 = .ok (.goto (-37), 3) := by decide +kernel
theorem dX1_openOnesOf_44 : decode cX1_openOnesOf 44 = .ok (.iload_n 2, 1) := by decide +kernel
theorem dX1_openOnesOf_45 : decode cX1_openOnesOf 45 = .ok (.ireturn, 1) := by decide +kernel
theorem dX1_remainsOf_0 : decode cX1_remainsOf 0 = .ok (.iconst 0, 1) := by decide +kernel
theorem dX1_remainsOf_1 : decode cX1_remainsOf 1 = .ok (.istore_n 2, 1) := by decide +kernel
theorem dX1_remainsOf_2 : decode cX1_remainsOf 2 = .ok (.iconst 0, 1) := by decide +kernel
theorem dX1_remainsOf_3 : decode cX1_remainsOf 3 = .ok (.istore_n 3, 1) := by decide +kernel
theorem dX1_remainsOf_4 : decode cX1_remainsOf 4 = .ok (.iload_n 3, 1) := by decide +kernel
theorem dX1_remainsOf_5 : decode cX1_remainsOf 5 = .ok (.aload_n 0, 1) := by decide +kernel
theorem dX1_remainsOf_6 : decode cX1_remainsOf 6 = .ok (.getfield 42, 3) := by decide +kernel
theorem dX1_remainsOf_9 : decode cX1_remainsOf 9 = .ok (.if_icmp .ge 31, 3) := by decide +kernel
theorem dX1_remainsOf_12 : decode cX1_remainsOf 12 = .ok (.iload_n 2, 1) := by decide +kernel
theorem dX1_remainsOf_13 : decode cX1_remainsOf 13 = .ok (.aload_n 0, 1) := by decide +kernel
theorem dX1_remainsOf_14 : decode cX1_remainsOf 14 = .ok (.getfield 9, 3) := by decide +kernel
theorem dX1_remainsOf_17 : decode cX1_remainsOf 17 = .ok (.iload_n 3, 1) := by decide +kernel
theorem dX1_remainsOf_18 : decode cX1_remainsOf 18 = .ok (.iaload, 1) := by decide +kernel
theorem dX1_remainsOf_19 : decode cX1_remainsOf 19 = .ok (.iload_n 1, 1) := by decide +kernel
theorem dX1_remainsOf_20 : decode cX1_remainsOf 20 = .ok (.if_icmp .ne 11, 3) := by decide +kernel
theorem dX1_remainsOf_23 : decode cX1_remainsOf 23 = .ok (.aload_n 0, 1) := by decide +kernel
theorem dX1_remainsOf_24 : decode cX1_remainsOf 24 = .ok (.iload_n 3, 1) := by decide +kernel
theorem dX1_remainsOf_25 : decode cX1_remainsOf 25 = .ok (.invokevirtual 60, 3) := by decide +kernel
theorem dX1_remainsOf_28 : decode cX1_remainsOf 28 = .ok (.goto 4, 3) := by decide +kernel
theorem dX1_remainsOf_31 : decode cX1_remainsOf 31 = .ok (.iconst 0, 1) := by decide +kernel
theorem dX1_remainsOf_32 : decode cX1_remainsOf 32 = .ok (.iadd, 1) := by decide +kernel
theorem dX1_remainsOf_33 : decode cX1_remainsOf 33 = .ok (.istore_n 2, 1) := by decide +kernel
theorem dX1_remainsOf_34 : decode cX1_remainsOf 34 = .ok (.iinc 3 1, 3) := by decide +kernel
theorem dX1_remainsOf_37 : decode cX1_remainsOf 37 = .ok (.goto (-33), 3) := by decide +kernel
theorem dX1_remainsOf_40 : decode cX1_remainsOf 40 = .ok (.iload_n 2, 1) := by decide +kernel
theorem dX1_remainsOf_41 : decode cX1_remainsOf 41 = .ok (.ireturn, 1) := by decide +kernel
theorem dX1_earliestLastDayOf_0 : decode cX1_earliestLastDayOf 0 = .ok (.bipush (-2), 2) := by decide +kernel
theorem dX1_earliestLastDayOf_2 : decode cX1_earliestLastDayOf 2 = .ok (.istore_n 2, 1) := by decide +kernel
theorem dX1_earliestLastDayOf_3 : decode cX1_earliestLastDayOf 3 = .ok (.iconst 0, 1) := by decide +kernel
theorem dX1_earliestLastDayOf_4 : decode cX1_earliestLastDayOf 4 = .ok (.istore_n 3, 1) := by decide +kernel
theorem dX1_earliestLastDayOf_5 : decode cX1_earliestLastDayOf 5 = .ok (.iload_n 3, 1) := by decide +kernel
theorem dX1_earliestLastDayOf_6 : decode cX1_earliestLastDayOf 6 = .ok (.aload_n 0, 1) := by decide +kernel
theorem dX1_earliestLastDayOf_7 : decode cX1_earliestLastDayOf 7 = .ok (.getfield 42, 3) := by decide +kernel
theorem dX1_earliestLastDayOf_10 : decode cX1_earliestLastDayOf 10 = .ok (.if_icmp .ge 48, 3) := by decide +kernel
theorem dX1_earliestLastDayOf_13 : decode cX1_earliestLastDayOf 13 = .ok (.aload_n 0, 1) := by decide +kernel
theorem dX1_earliestLastDayOf_14 : decode cX1_earliestLastDayOf 14 = .ok (.iload_n 3, 1) := by decide +kernel
theorem dX1_earliestLastDayOf_15 : decode cX1_earliestLastDayOf 15 = .ok (.invokevirtual 52, 3) := by decide +kernel
theorem dX1_earliestLastDayOf_18 : decode cX1_earliestLastDayOf 18 = .ok (.ifCond .eq 34, 3) := by decide +kernel
theorem dX1_earliestLastDayOf_21 : decode cX1_earliestLastDayOf 21 = .ok (.aload_n 0, 1) := by decide +kernel
theorem dX1_earliestLastDayOf_22 : decode cX1_earliestLastDayOf 22 = .ok (.getfield 9, 3) := by decide +kernel
theorem dX1_earliestLastDayOf_25 : decode cX1_earliestLastDayOf 25 = .ok (.iload_n 3, 1) := by decide +kernel
theorem dX1_earliestLastDayOf_26 : decode cX1_earliestLastDayOf 26 = .ok (.iaload, 1) := by decide +kernel
theorem dX1_earliestLastDayOf_27 : decode cX1_earliestLastDayOf 27 = .ok (.iload_n 1, 1) := by decide +kernel
theorem dX1_earliestLastDayOf_28 : decode cX1_earliestLastDayOf 28 = .ok (.if_icmp .ne 24, 3) := by decide +kernel
theorem dX1_earliestLastDayOf_31 : decode cX1_earliestLastDayOf 31 = .ok (.iload_n 2, 1) := by decide +kernel
theorem dX1_earliestLastDayOf_32 : decode cX1_earliestLastDayOf 32 = .ok (.ifCond .lt 13, 3) := by decide +kernel
theorem dX1_earliestLastDayOf_35 : decode cX1_earliestLastDayOf 35 = .ok (.aload_n 0, 1) := by decide +kernel
theorem dX1_earliestLastDayOf_36 : decode cX1_earliestLastDayOf 36 = .ok (.getfield 24, 3) := by decide +kernel
theorem dX1_earliestLastDayOf_39 : decode cX1_earliestLastDayOf 39 = .ok (.iload_n 3, 1) := by decide +kernel
theorem dX1_earliestLastDayOf_40 : decode cX1_earliestLastDayOf 40 = .ok (.iaload, 1) := by decide +kernel
theorem dX1_earliestLastDayOf_41 : decode cX1_earliestLastDayOf 41 = .ok (.iload_n 2, 1) := by decide +kernel
theorem dX1_earliestLastDayOf_42 : decode cX1_earliestLastDayOf 42 = .ok (.if_icmp .ge 10, 3) := by decide +kernel
theorem dX1_earliestLastDayOf_45 : decode cX1_earliestLastDayOf 45 = .ok (.aload_n 0, 1) := by decide +kernel
theorem dX1_earliestLastDayOf_46 : decode cX1_earliestLastDayOf 46 = .ok (.getfield 24, 3) := by decide +kernel
theorem dX1_earliestLastDayOf_49 : decode cX1_earliestLastDayOf 49 = .ok (.iload_n 3, 1) := by decide +kernel
theorem dX1_earliestLastDayOf_50 : decode cX1_earliestLastDayOf 50 = .ok (.iaload, 1) := by decide +kernel
theorem dX1_earliestLastDayOf_51 : decode cX1_earliestLastDayOf 51 = .ok (.istore_n 2, 1) := by decide +kernel
theorem dX1_earliestLastDayOf_52 : decode cX1_earliestLastDayOf 52 = .ok (.iinc 3 1, 3) := by decide +kernel
theorem dX1_earliestLastDayOf_55 : decode cX1_earliestLastDayOf 55 = .ok (.goto (-50), 3) := by decide +kernel
theorem dX1_earliestLastDayOf_58 : decode cX1_earliestLastDayOf 58 = .ok (.iload_n 2, 1) := by decide +kernel
theorem dX1_earliestLastDayOf_59 : decode cX1_earliestLastDayOf 59 = .ok (.ireturn, 1) := by decide +kernel
theorem dX1_longestOpenOf_0 : decode cX1_longestOpenOf 0 = .ok (.bipush (-2), 2) := by decide +kernel
theorem dX1_longestOpenOf_2 : decode cX1_longestOpenOf 2 = .ok (.istore_n 3, 1) := by decide +kernel
theorem dX1_longestOpenOf_3 : decode cX1_longestOpenOf 3 = .ok (.iconst 0, 1) := by decide +kernel
theorem dX1_longestOpenOf_4 : decode cX1_longestOpenOf 4 = .ok (.istore 4, 2) := by decide +kernel
theorem dX1_longestOpenOf_6 : decode cX1_longestOpenOf 6 = .ok (.iload 4, 2) := by decide +kernel
theorem dX1_longestOpenOf_8 : decode cX1_longestOpenOf 8 = .ok (.aload_n 0, 1) := by decide +kernel
theorem dX1_longestOpenOf_9 : decode cX1_longestOpenOf 9 = .ok (.getfield 42, 3) := by decide +kernel
theorem dX1_longestOpenOf_12 : decode cX1_longestOpenOf 12 = .ok (.if_icmp .ge 45, 3) := by decide +kernel
theorem dX1_longestOpenOf_15 : decode cX1_longestOpenOf 15 = .ok (.aload_n 0, 1) := by decide +kernel
theorem dX1_longestOpenOf_16 : decode cX1_longestOpenOf 16 = .ok (.iload 4, 2) := by decide +kernel
theorem dX1_longestOpenOf_18 : decode cX1_longestOpenOf 18 = .ok (.invokevirtual 52, 3) := by decide +kernel
theorem dX1_longestOpenOf_21 : decode cX1_longestOpenOf 21 = .ok (.ifCond .eq 30, 3) := by decide +kernel
theorem dX1_longestOpenOf_24 : decode cX1_longestOpenOf 24 = .ok (.aload_n 0, 1) := by decide +kernel
theorem dX1_longestOpenOf_25 : decode cX1_longestOpenOf 25 = .ok (.getfield 9, 3) := by decide +kernel
theorem dX1_longestOpenOf_28 : decode cX1_longestOpenOf 28 = .ok (.iload 4, 2) := by decide +kernel
theorem dX1_longestOpenOf_30 : decode cX1_longestOpenOf 30 = .ok (.iaload, 1) := by decide +kernel
theorem dX1_longestOpenOf_31 : decode cX1_longestOpenOf 31 = .ok (.iload_n 1, 1) := by decide +kernel
theorem dX1_longestOpenOf_32 : decode cX1_longestOpenOf 32 = .ok (.if_icmp .ne 19, 3) := by decide +kernel
theorem dX1_longestOpenOf_35 : decode cX1_longestOpenOf 35 = .ok (.iload_n 3, 1) := by decide +kernel
theorem dX1_longestOpenOf_36 : decode cX1_longestOpenOf 36 = .ok (.iload_n 2, 1) := by decide +kernel
theorem dX1_longestOpenOf_37 : decode cX1_longestOpenOf 37 = .ok (.aload_n 0, 1) := by decide +kernel
theorem dX1_longestOpenOf_38 : decode cX1_longestOpenOf 38 = .ok (.getfield 21, 3) := by decide +kernel
theorem dX1_longestOpenOf_41 : decode cX1_longestOpenOf 41 = .ok (.iload 4, 2) := by decide +kernel
theorem dX1_longestOpenOf_43 : decode cX1_longestOpenOf 43 = .ok (.iaload, 1) := by decide +kernel
theorem dX1_longestOpenOf_44 : decode cX1_longestOpenOf 44 = .ok (.isub, 1) := by decide +kernel
theorem dX1_longestOpenOf_45 : decode cX1_longestOpenOf 45 = .ok (.iconst 1, 1) := by decide +kernel
theorem dX1_longestOpenOf_46 : decode cX1_longestOpenOf 46 = .ok (.iadd, 1) := by decide +kernel
theorem dX1_longestOpenOf_47 : decode cX1_longestOpenOf 47 = .ok (.invokestatic 78, 3) := by decide +kernel
theorem dX1_longestOpenOf_50 : decode cX1_longestOpenOf 50 = .ok (.istore_n 3, 1) := by decide +kernel
theorem dX1_longestOpenOf_51 : decode cX1_longestOpenOf 51 = .ok (.iinc 4 1, 3) := by decide +kernel
theorem dX1_longestOpenOf_54 : decode cX1_longestOpenOf 54 = .ok (.goto (-48), 3) := by decide +kernel
theorem dX1_longestOpenOf_57 : decode cX1_longestOpenOf 57 = .ok (.iload_n 3, 1) := by decide +kernel
theorem dX1_longestOpenOf_58 : decode cX1_longestOpenOf 58 = .ok (.ireturn, 1) := by decide +kernel
theorem dX2_init_0 : decode cX2_init 0 = .ok (.aload_n 0, 1) := by decide +kernel
theorem dX2_init_1 : decode cX2_init 1 = .ok (.invokespecial 3, 3) := by decide +kernel
theorem dX2_init_4 : decode cX2_init 4 = .ok (.aload_n 0, 1) := by decide +kernel
theorem dX2_init_5 : decode cX2_init 5 = .ok (.bipush 40, 2) := by decide +kernel
theorem dX2_init_7 : decode cX2_init 7 = .ok (.newarray .long, 2) := by decide +kernel
theorem dX2_init_9 : decode cX2_init 9 = .ok (.putfield 9, 3) := by decide +kernel
theorem dX2_init_12 : decode cX2_init 12 = .ok (.aload_n 0, 1) := by decide +kernel
theorem dX2_init_13 : decode cX2_init 13 = .ok (.iconst (-1), 1) := by decide +kernel
theorem dX2_init_14 : decode cX2_init 14 = .ok (.putfield 15, 3) := by decide +kernel
theorem dX2_init_17 : decode cX2_init 17 = .ok (.return_, 1) := by decide +kernel
theorem dX2_makeRow_0 : decode cX2_makeRow 0 = .ok (.iload_n 1, 1) := by decide +kernel
theorem dX2_makeRow_1 : decode cX2_makeRow 1 = .ok (.ifCond .lt 18, 3) := by decide +kernel
theorem dX2_makeRow_4 : decode cX2_makeRow 4 = .ok (.iload_n 1, 1) := by decide +kernel
theorem dX2_makeRow_5 : decode cX2_makeRow 5 = .ok (.iconst 4, 1) := by decide +kernel
theorem dX2_makeRow_6 : decode cX2_makeRow 6 = .ok (.if_icmp .ge 13, 3) := by decide +kernel
theorem dX2_makeRow_9 : decode cX2_makeRow 9 = .ok (.iload_n 2, 1) := by decide +kernel
theorem dX2_makeRow_10 : decode cX2_makeRow 10 = .ok (.ifCond .lt 9, 3) := by decide +kernel
theorem dX2_makeRow_13 : decode cX2_makeRow 13 = .ok (.iload_n 2, 1) := by decide +kernel
theorem dX2_makeRow_14 : decode cX2_makeRow 14 = .ok (.bipush 40, 2) := by decide +kernel
theorem dX2_makeRow_16 : decode cX2_makeRow 16 = .ok (.if_icmp .le 5, 3) := by decide +kernel
theorem dX2_makeRow_19 : decode cX2_makeRow 19 = .ok (.iconst (-1), 1) := by decide +kernel
theorem dX2_makeRow_20 : decode cX2_makeRow 20 = .ok (.ireturn, 1) := by decide +kernel
theorem dX2_makeRow_21 : decode cX2_makeRow 21 = .ok (.aload_n 0, 1) := by decide +kernel
theorem dX2_makeRow_22 : decode cX2_makeRow 22 = .ok (.iload_n 1, 1) := by decide +kernel
theorem dX2_makeRow_23 : decode cX2_makeRow 23 = .ok (.putfield 15, 3) := by decide +kernel
theorem dX2_makeRow_26 : decode cX2_makeRow 26 = .ok (.aload_n 0, 1) := by decide +kernel
theorem dX2_makeRow_27 : decode cX2_makeRow 27 = .ok (.iload_n 2, 1) := by decide +kernel
theorem dX2_makeRow_28 : decode cX2_makeRow 28 = .ok (.putfield 19, 3) := by decide +kernel
theorem dX2_makeRow_31 : decode cX2_makeRow 31 = .ok (.aload_n 0, 1) := by decide +kernel
theorem dX2_makeRow_32 : decode cX2_makeRow 32 = .ok (.getfield 9, 3) := by decide +kernel
theorem dX2_makeRow_35 : decode cX2_makeRow 35 = .ok (.lconst 0, 1) := by decide +kernel
theorem dX2_makeRow_36 : decode cX2_makeRow 36 = .ok (.invokestatic 22, 3) := by decide +kernel
theorem dX2_makeRow_39 : decode cX2_makeRow 39 = .ok (.iload_n 2, 1) := by decide +kernel
theorem dX2_makeRow_40 : decode cX2_makeRow 40 = .ok (.ireturn, 1) := by decide +kernel
theorem dX2_put_0 : decode cX2_put 0 = .ok (.iload_n 2, 1) := by decide +kernel
theorem dX2_put_1 : decode cX2_put 1 = .ok (.ifCond .lt 8, 3) := by decide +kernel
theorem dX2_put_4 : decode cX2_put 4 = .ok (.iload_n 2, 1) := by decide +kernel
theorem dX2_put_5 : decode cX2_put 5 = .ok (.iconst 4, 1) := by decide +kernel
theorem dX2_put_6 : decode cX2_put 6 = .ok (.if_icmp .lt 5, 3) := by decide +kernel
theorem dX2_put_9 : decode cX2_put 9 = .ok (.iconst (-1), 1) := by decide +kernel
theorem dX2_put_10 : decode cX2_put 10 = .ok (.ireturn, 1) := by decide +kernel
theorem dX2_put_11 : decode cX2_put 11 = .ok (.aload_n 0, 1) := by decide +kernel
theorem dX2_put_12 : decode cX2_put 12 = .ok (.getfield 15, 3) := by decide +kernel
theorem dX2_put_15 : decode cX2_put 15 = .ok (.iconst (-1), 1) := by decide +kernel
theorem dX2_put_16 : decode cX2_put 16 = .ok (.if_icmp .ne 6, 3) := by decide +kernel
theorem dX2_put_19 : decode cX2_put 19 = .ok (.bipush (-2), 2) := by decide +kernel
theorem dX2_put_21 : decode cX2_put 21 = .ok (.ireturn, 1) := by decide +kernel
theorem dX2_put_22 : decode cX2_put 22 = .ok (.iload_n 1, 1) := by decide +kernel
theorem dX2_put_23 : decode cX2_put 23 = .ok (.ifCond .lt 11, 3) := by decide +kernel
theorem dX2_put_26 : decode cX2_put 26 = .ok (.iload_n 1, 1) := by decide +kernel
theorem dX2_put_27 : decode cX2_put 27 = .ok (.aload_n 0, 1) := by decide +kernel
theorem dX2_put_28 : decode cX2_put 28 = .ok (.getfield 19, 3) := by decide +kernel
theorem dX2_put_31 : decode cX2_put 31 = .ok (.if_icmp .lt 6, 3) := by decide +kernel
theorem dX2_put_34 : decode cX2_put 34 = .ok (.bipush (-3), 2) := by decide +kernel
theorem dX2_put_36 : decode cX2_put 36 = .ok (.ireturn, 1) := by decide +kernel
theorem dX2_put_37 : decode cX2_put 37 = .ok (.iload_n 2, 1) := by decide +kernel
theorem dX2_put_38 : decode cX2_put 38 = .ok (.aload_n 0, 1) := by decide +kernel
theorem dX2_put_39 : decode cX2_put 39 = .ok (.getfield 15, 3) := by decide +kernel
theorem dX2_put_42 : decode cX2_put 42 = .ok (.if_icmp .eq 6, 3) := by decide +kernel
theorem dX2_put_45 : decode cX2_put 45 = .ok (.bipush (-4), 2) := by decide +kernel
theorem dX2_put_47 : decode cX2_put 47 = .ok (.ireturn, 1) := by decide +kernel
theorem dX2_put_48 : decode cX2_put 48 = .ok (.aload_n 0, 1) := by decide +kernel
theorem dX2_put_49 : decode cX2_put 49 = .ok (.getfield 15, 3) := by decide +kernel
theorem dX2_put_52 : decode cX2_put 52 = .ok (.ifCond .ne 11, 3) := by decide +kernel
theorem dX2_put_55 : decode cX2_put 55 = .ok (.lload_n 3, 1) := by decide +kernel
theorem dX2_put_56 : decode cX2_put 56 = .ok (.lload_n 3, 1) := by decide +kernel
theorem dX2_put_57 : decode cX2_put 57 = .ok (.l2i, 1) := by decide +kernel
theorem dX2_put_58 : decode cX2_put 58 = .ok (.i2l, 1) := by decide +kernel
theorem dX2_put_59 : decode cX2_put 59 = .ok (.lcmp, 1) := by decide +kernel
theorem dX2_put_60 : decode cX2_put 60 = .ok (.ifCond .ne 20, 3) := by decide +kernel
theorem dX2_put_63 : decode cX2_put 63 = .ok (.aload_n 0, 1) := by decide +kernel
theorem dX2_put_64 : decode cX2_put 64 = .ok (.getfield 15, 3) := by decide +kernel
theorem dX2_put_67 : decode cX2_put 67 = .ok (.iconst 3, 1) := by decide +kernel
theorem dX2_put_68 : decode cX2_put 68 = .ok (.if_icmp .ne 15, 3) := by decide +kernel
theorem dX2_put_71 : decode cX2_put 71 = .ok (.lload_n 3, 1) := by decide +kernel
theorem dX2_put_72 : decode cX2_put 72 = .ok (.lload_n 3, 1) := by decide +kernel
theorem dX2_put_73 : decode cX2_put 73 = .ok (.l2i, 1) := by decide +kernel
theorem dX2_put_74 : decode cX2_put 74 = .ok (.i2s, 1) := by decide +kernel
theorem dX2_put_75 : decode cX2_put 75 = .ok (.i2l, 1) := by decide +kernel
theorem dX2_put_76 : decode cX2_put 76 = .ok (.lcmp, 1) := by decide +kernel
theorem dX2_put_77 : decode cX2_put 77 = .ok (.ifCond .eq 6, 3) := by decide +kernel
theorem dX2_put_80 : decode cX2_put 80 = .ok (.bipush (-5), 2) := by decide +kernel
theorem dX2_put_82 : decode cX2_put 82 = .ok (.ireturn, 1) := by decide +kernel
theorem dX2_put_83 : decode cX2_put 83 = .ok (.aload_n 0, 1) := by decide +kernel
theorem dX2_put_84 : decode cX2_put 84 = .ok (.getfield 9, 3) := by decide +kernel
theorem dX2_put_87 : decode cX2_put 87 = .ok (.iload_n 1, 1) := by decide +kernel
theorem dX2_put_88 : decode cX2_put 88 = .ok (.lload_n 3, 1) := by decide +kernel
theorem dX2_put_89 : decode cX2_put 89 = .ok (.lastore, 1) := by decide +kernel
theorem dX2_put_90 : decode cX2_put 90 = .ok (.iload_n 1, 1) := by decide +kernel
theorem dX2_put_91 : decode cX2_put 91 = .ok (.ireturn, 1) := by decide +kernel
theorem dX2_at_0 : decode cX2_at 0 = .ok (.iload_n 1, 1) := by decide +kernel
theorem dX2_at_1 : decode cX2_at 1 = .ok (.ifCond .lt 11, 3) := by decide +kernel
theorem dX2_at_4 : decode cX2_at 4 = .ok (.iload_n 1, 1) := by decide +kernel
theorem dX2_at_5 : decode cX2_at 5 = .ok (.aload_n 0, 1) := by decide +kernel
theorem dX2_at_6 : decode cX2_at 6 = .ok (.getfield 19, 3) := by decide +kernel
theorem dX2_at_9 : decode cX2_at 9 = .ok (.if_icmp .lt 7, 3) := by decide +kernel
theorem dX2_at_12 : decode cX2_at 12 = .ok (.ldc2_w 28, 3) := by decide +kernel
theorem dX2_at_15 : decode cX2_at 15 = .ok (.lreturn, 1) := by decide +kernel
theorem dX2_at_16 : decode cX2_at 16 = .ok (.aload_n 0, 1) := by decide +kernel
theorem dX2_at_17 : decode cX2_at 17 = .ok (.getfield 15, 3) := by decide +kernel
theorem dX2_at_20 : decode cX2_at 20 = .ok (.iconst 2, 1) := by decide +kernel
theorem dX2_at_21 : decode cX2_at 21 = .ok (.if_icmp .ne 39, 3) := by decide +kernel
theorem dX2_at_24 : decode cX2_at 24 = .ok (.aload_n 0, 1) := by decide +kernel
theorem dX2_at_25 : decode cX2_at 25 = .ok (.getfield 9, 3) := by decide +kernel
theorem dX2_at_28 : decode cX2_at 28 = .ok (.iload_n 1, 1) := by decide +kernel
theorem dX2_at_29 : decode cX2_at 29 = .ok (.laload, 1) := by decide +kernel
theorem dX2_at_30 : decode cX2_at 30 = .ok (.ldc2_w 30, 3) := by decide +kernel
theorem dX2_at_33 : decode cX2_at 33 = .ok (.land, 1) := by decide +kernel
theorem dX2_at_34 : decode cX2_at 34 = .ok (.ldc2_w 30, 3) := by decide +kernel
theorem dX2_at_37 : decode cX2_at 37 = .ok (.lcmp, 1) := by decide +kernel
theorem dX2_at_38 : decode cX2_at 38 = .ok (.ifCond .ne 22, 3) := by decide +kernel
theorem dX2_at_41 : decode cX2_at 41 = .ok (.aload_n 0, 1) := by decide +kernel
theorem dX2_at_42 : decode cX2_at 42 = .ok (.getfield 9, 3) := by decide +kernel
theorem dX2_at_45 : decode cX2_at 45 = .ok (.iload_n 1, 1) := by decide +kernel
theorem dX2_at_46 : decode cX2_at 46 = .ok (.laload, 1) := by decide +kernel
theorem dX2_at_47 : decode cX2_at 47 = .ok (.ldc2_w 32, 3) := by decide +kernel
theorem dX2_at_50 : decode cX2_at 50 = .ok (.land, 1) := by decide +kernel
theorem dX2_at_51 : decode cX2_at 51 = .ok (.lconst 0, 1) := by decide +kernel
theorem dX2_at_52 : decode cX2_at 52 = .ok (.lcmp, 1) := by decide +kernel
theorem dX2_at_53 : decode cX2_at 53 = .ok (.ifCond .eq 7, 3) := by decide +kernel
theorem dX2_at_56 : decode cX2_at 56 = .ok (.iconst 1, 1) := by decide +kernel
theorem dX2_at_57 : decode cX2_at 57 = .ok (.goto 4, 3) := by decide +kernel
theorem dX2_at_60 : decode cX2_at 60 = .ok (.iconst 0, 1) := by decide +kernel
theorem dX2_at_61 : decode cX2_at 61 = .ok (.istore_n 2, 1) := by decide +kernel
theorem dX2_at_62 : decode cX2_at 62 = .ok (.iload_n 2, 1) := by decide +kernel
theorem dX2_at_63 : decode cX2_at 63 = .ok (.ifCond .eq 9, 3) := by decide +kernel
theorem dX2_at_66 : decode cX2_at 66 = .ok (.ldc2_w 34, 3) := by decide +kernel
theorem dX2_at_69 : decode cX2_at 69 = .ok (.goto 9, 3) := by decide +kernel
theorem dX2_at_72 : decode cX2_at 72 = .ok (.aload_n 0, 1) := by decide +kernel
theorem dX2_at_73 : decode cX2_at 73 = .ok (.getfield 9, 3) := by decide +kernel
theorem dX2_at_76 : decode cX2_at 76 = .ok (.iload_n 1, 1) := by decide +kernel
theorem dX2_at_77 : decode cX2_at 77 = .ok (.laload, 1) := by decide +kernel
theorem dX2_at_78 : decode cX2_at 78 = .ok (.lreturn, 1) := by decide +kernel
theorem dX3_init_0 : decode cX3_init 0 = .ok (.aload_n 0, 1) := by decide +kernel
theorem dX3_init_1 : decode cX3_init 1 = .ok (.invokespecial 3, 3) := by decide +kernel
theorem dX3_init_4 : decode cX3_init 4 = .ok (.aload_n 0, 1) := by decide +kernel
theorem dX3_init_5 : decode cX3_init 5 = .ok (.bipush 32, 2) := by decide +kernel
theorem dX3_init_7 : decode cX3_init 7 = .ok (.newarray .int, 2) := by decide +kernel
theorem dX3_init_9 : decode cX3_init 9 = .ok (.putfield 9, 3) := by decide +kernel
theorem dX3_init_12 : decode cX3_init 12 = .ok (.aload_n 0, 1) := by decide +kernel
theorem dX3_init_13 : decode cX3_init 13 = .ok (.bipush 32, 2) := by decide +kernel
theorem dX3_init_15 : decode cX3_init 15 = .ok (.newarray .int, 2) := by decide +kernel
theorem dX3_init_17 : decode cX3_init 17 = .ok (.putfield 15, 3) := by decide +kernel
theorem dX3_init_20 : decode cX3_init 20 = .ok (.aload_n 0, 1) := by decide +kernel
theorem dX3_init_21 : decode cX3_init 21 = .ok (.bipush 32, 2) := by decide +kernel
theorem dX3_init_23 : decode cX3_init 23 = .ok (.newarray .int, 2) := by decide +kernel
theorem dX3_init_25 : decode cX3_init 25 = .ok (.putfield 18, 3) := by decide +kernel
theorem dX3_init_28 : decode cX3_init 28 = .ok (.aload_n 0, 1) := by decide +kernel
theorem dX3_init_29 : decode cX3_init 29 = .ok (.bipush 32, 2) := by decide +kernel
theorem dX3_init_31 : decode cX3_init 31 = .ok (.newarray .int, 2) := by decide +kernel
theorem dX3_init_33 : decode cX3_init 33 = .ok (.putfield 21, 3) := by decide +kernel
theorem dX3_init_36 : decode cX3_init 36 = .ok (.aload_n 0, 1) := by decide +kernel
theorem dX3_init_37 : decode cX3_init 37 = .ok (.bipush 32, 2) := by decide +kernel
theorem dX3_init_39 : decode cX3_init 39 = .ok (.newarray .int, 2) := by decide +kernel
theorem dX3_init_41 : decode cX3_init 41 = .ok (.putfield 24, 3) := by decide +kernel
theorem dX3_init_44 : decode cX3_init 44 = .ok (.aload_n 0, 1) := by decide +kernel
theorem dX3_init_45 : decode cX3_init 45 = .ok (.sipush 160, 3) := by decide +kernel
theorem dX3_init_48 : decode cX3_init 48 = .ok (.newarray .int, 2) := by decide +kernel
theorem dX3_init_50 : decode cX3_init 50 = .ok (.putfield 27, 3) := by decide +kernel
theorem dX3_init_53 : decode cX3_init 53 = .ok (.return_, 1) := by decide +kernel
theorem dX3_copyFrom_0 : decode cX3_copyFrom 0 = .ok (.aload_n 1, 1) := by decide +kernel
theorem dX3_copyFrom_1 : decode cX3_copyFrom 1 = .ok (.getfield 9, 3) := by decide +kernel
theorem dX3_copyFrom_4 : decode cX3_copyFrom 4 = .ok (.iconst 0, 1) := by decide +kernel
theorem dX3_copyFrom_5 : decode cX3_copyFrom 5 = .ok (.aload_n 0, 1) := by decide +kernel
theorem dX3_copyFrom_6 : decode cX3_copyFrom 6 = .ok (.getfield 9, 3) := by decide +kernel
theorem dX3_copyFrom_9 : decode cX3_copyFrom 9 = .ok (.iconst 0, 1) := by decide +kernel
theorem dX3_copyFrom_10 : decode cX3_copyFrom 10 = .ok (.aload_n 0, 1) := by decide +kernel
theorem dX3_copyFrom_11 : decode cX3_copyFrom 11 = .ok (.getfield 9, 3) := by decide +kernel
theorem dX3_copyFrom_14 : decode cX3_copyFrom 14 = .ok (.arraylength, 1) := by decide +kernel
theorem dX3_copyFrom_15 : decode cX3_copyFrom 15 = .ok (.invokestatic 30, 3) := by decide +kernel
theorem dX3_copyFrom_18 : decode cX3_copyFrom 18 = .ok (.aload_n 1, 1) := by decide +kernel
theorem dX3_copyFrom_19 : decode cX3_copyFrom 19 = .ok (.getfield 15, 3) := by decide +kernel
theorem dX3_copyFrom_22 : decode cX3_copyFrom 22 = .ok (.iconst 0, 1) := by decide +kernel
theorem dX3_copyFrom_23 : decode cX3_copyFrom 23 = .ok (.aload_n 0, 1) := by decide +kernel
theorem dX3_copyFrom_24 : decode cX3_copyFrom 24 = .ok (.getfield 15, 3) := by decide +kernel
theorem dX3_copyFrom_27 : decode cX3_copyFrom 27 = .ok (.iconst 0, 1) := by decide +kernel
theorem dX3_copyFrom_28 : decode cX3_copyFrom 28 = .ok (.aload_n 0, 1) := by decide +kernel
theorem dX3_copyFrom_29 : decode cX3_copyFrom 29 = .ok (.getfield 15, 3) := by decide +kernel
theorem dX3_copyFrom_32 : decode cX3_copyFrom 32 = .ok (.arraylength, 1) := by decide +kernel
theorem dX3_copyFrom_33 : decode cX3_copyFrom 33 = .ok (.invokestatic 30, 3) := by decide +kernel
theorem dX3_copyFrom_36 : decode cX3_copyFrom 36 = .ok (.aload_n 1, 1) := by decide +kernel
theorem dX3_copyFrom_37 : decode cX3_copyFrom 37 = .ok (.getfield 18, 3) := by decide +kernel
theorem dX3_copyFrom_40 : decode cX3_copyFrom 40 = .ok (.iconst 0, 1) := by decide +kernel
theorem dX3_copyFrom_41 : decode cX3_copyFrom 41 = .ok (.aload_n 0, 1) := by decide +kernel
theorem dX3_copyFrom_42 : decode cX3_copyFrom 42 = .ok (.getfield 18, 3) := by decide +kernel
theorem dX3_copyFrom_45 : decode cX3_copyFrom 45 = .ok (.iconst 0, 1) := by decide +kernel
theorem dX3_copyFrom_46 : decode cX3_copyFrom 46 = .ok (.aload_n 0, 1) := by decide +kernel
theorem dX3_copyFrom_47 : decode cX3_copyFrom 47 = .ok (.getfield 18, 3) := by decide +kernel
theorem dX3_copyFrom_50 : decode cX3_copyFrom 50 = .ok (.arraylength, 1) := by decide +kernel
theorem dX3_copyFrom_51 : decode cX3_copyFrom 51 = .ok (.invokestatic 30, 3) := by decide +kernel
theorem dX3_copyFrom_54 : decode cX3_copyFrom 54 = .ok (.aload_n 1, 1) := by decide +kernel
theorem dX3_copyFrom_55 : decode cX3_copyFrom 55 = .ok (.getfield 21, 3) := by decide +kernel
theorem dX3_copyFrom_58 : decode cX3_copyFrom 58 = .ok (.iconst 0, 1) := by decide +kernel
theorem dX3_copyFrom_59 : decode cX3_copyFrom 59 = .ok (.aload_n 0, 1) := by decide +kernel
theorem dX3_copyFrom_60 : decode cX3_copyFrom 60 = .ok (.getfield 21, 3) := by decide +kernel
theorem dX3_copyFrom_63 : decode cX3_copyFrom 63 = .ok (.iconst 0, 1) := by decide +kernel
theorem dX3_copyFrom_64 : decode cX3_copyFrom 64 = .ok (.aload_n 0, 1) := by decide +kernel
theorem dX3_copyFrom_65 : decode cX3_copyFrom 65 = .ok (.getfield 21, 3) := by decide +kernel
theorem dX3_copyFrom_68 : decode cX3_copyFrom 68 = .ok (.arraylength, 1) := by decide +kernel
theorem dX3_copyFrom_69 : decode cX3_copyFrom 69 = .ok (.invokestatic 30, 3) := by decide +kernel
theorem dX3_copyFrom_72 : decode cX3_copyFrom 72 = .ok (.aload_n 1, 1) := by decide +kernel
theorem dX3_copyFrom_73 : decode cX3_copyFrom 73 = .ok (.getfield 24, 3) := by decide +kernel
theorem dX3_copyFrom_76 : decode cX3_copyFrom 76 = .ok (.iconst 0, 1) := by decide +kernel
theorem dX3_copyFrom_77 : decode cX3_copyFrom 77 = .ok (.aload_n 0, 1) := by decide +kernel
theorem dX3_copyFrom_78 : decode cX3_copyFrom 78 = .ok (.getfield 24, 3) := by decide +kernel
theorem dX3_copyFrom_81 : decode cX3_copyFrom 81 = .ok (.iconst 0, 1) := by decide +kernel
theorem dX3_copyFrom_82 : decode cX3_copyFrom 82 = .ok (.aload_n 0, 1) := by decide +kernel
theorem dX3_copyFrom_83 : decode cX3_copyFrom 83 = .ok (.getfield 24, 3) := by decide +kernel
theorem dX3_copyFrom_86 : decode cX3_copyFrom 86 = .ok (.arraylength, 1) := by decide +kernel
theorem dX3_copyFrom_87 : decode cX3_copyFrom 87 = .ok (.invokestatic 30, 3) := by decide +kernel
theorem dX3_copyFrom_90 : decode cX3_copyFrom 90 = .ok (.aload_n 1, 1) := by decide +kernel
theorem dX3_copyFrom_91 : decode cX3_copyFrom 91 = .ok (.getfield 27, 3) := by decide +kernel
theorem dX3_copyFrom_94 : decode cX3_copyFrom 94 = .ok (.iconst 0, 1) := by decide +kernel
theorem dX3_copyFrom_95 : decode cX3_copyFrom 95 = .ok (.aload_n 0, 1) := by decide +kernel
theorem dX3_copyFrom_96 : decode cX3_copyFrom 96 = .ok (.getfield 27, 3) := by decide +kernel
theorem dX3_copyFrom_99 : decode cX3_copyFrom 99 = .ok (.iconst 0, 1) := by decide +kernel
theorem dX3_copyFrom_100 : decode cX3_copyFrom 100 = .ok (.aload_n 0, 1) := by decide +kernel
theorem dX3_copyFrom_101 : decode cX3_copyFrom 101 = .ok (.getfield 27, 3) := by decide +kernel
theorem dX3_copyFrom_104 : decode cX3_copyFrom 104 = .ok (.arraylength, 1) := by decide +kernel
theorem dX3_copyFrom_105 : decode cX3_copyFrom 105 = .ok (.invokestatic 30, 3) := by decide +kernel
theorem dX3_copyFrom_108 : decode cX3_copyFrom 108 = .ok (.aload_n 0, 1) := by decide +kernel
theorem dX3_copyFrom_109 : decode cX3_copyFrom 109 = .ok (.aload_n 1, 1) := by decide +kernel
theorem dX3_copyFrom_110 : decode cX3_copyFrom 110 = .ok (.getfield 36, 3) := by decide +kernel
theorem dX3_copyFrom_113 : decode cX3_copyFrom 113 = .ok (.putfield 36, 3) := by decide +kernel
theorem dX3_copyFrom_116 : decode cX3_copyFrom 116 = .ok (.return_, 1) := by decide +kernel
theorem dX3_isTraditional_0 : decode cX3_isTraditional 0 = .ok (.aload_n 0, 1) := by decide +kernel
theorem dX3_isTraditional_1 : decode cX3_isTraditional 1 = .ok (.getfield 15, 3) := by decide +kernel
theorem dX3_isTraditional_4 : decode cX3_isTraditional 4 = .ok (.iload_n 1, 1) := by decide +kernel
theorem dX3_isTraditional_5 : decode cX3_isTraditional 5 = .ok (.iaload, 1) := by decide +kernel
theorem dX3_isTraditional_6 : decode cX3_isTraditional 6 = .ok (.iconst 1, 1) := by decide +kernel
theorem dX3_isTraditional_7 : decode cX3_isTraditional 7 = .ok (.if_icmp .ne 7, 3) := by decide +kernel
theorem dX3_isTraditional_10 : decode cX3_isTraditional 10 = .ok (.iconst 1, 1) := by decide +kernel
theorem dX3_isTraditional_11 : decode cX3_isTraditional 11 = .ok (.goto 4, 3) := by decide +kernel
theorem dX3_isTraditional_14 : decode cX3_isTraditional 14 = .ok (.iconst 0, 1) := by decide +kernel
theorem dX3_isTraditional_15 : decode cX3_isTraditional 15 = .ok (.ireturn, 1) := by decide +kernel
theorem dX3_figure_0 : decode cX3_figure 0 = .ok (.aload_n 0, 1) := by decide +kernel
theorem dX3_figure_1 : decode cX3_figure 1 = .ok (.getfield 9, 3) := by decide +kernel
theorem dX3_figure_4 : decode cX3_figure 4 = .ok (.iload_n 1, 1) := by decide +kernel
theorem dX3_figure_5 : decode cX3_figure 5 = .ok (.bipush 8, 2) := by decide +kernel
theorem dX3_figure_7 : decode cX3_figure 7 = .ok (.imul, 1) := by decide +kernel
theorem dX3_figure_8 : decode cX3_figure 8 = .ok (.iload_n 2, 1) := by decide +kernel
theorem dX3_figure_9 : decode cX3_figure 9 = .ok (.iadd, 1) := by decide +kernel
theorem dX3_figure_10 : decode cX3_figure 10 = .ok (.iaload, 1) := by decide +kernel
theorem dX3_figure_11 : decode cX3_figure 11 = .ok (.ireturn, 1) := by decide +kernel
theorem dX3_add_0 : decode cX3_add 0 = .ok (.aload_n 0, 1) := by decide +kernel
theorem dX3_add_1 : decode cX3_add 1 = .ok (.getfield 9, 3) := by decide +kernel
theorem dX3_add_4 : decode cX3_add 4 = .ok (.iload_n 1, 1) := by decide +kernel
theorem dX3_add_5 : decode cX3_add 5 = .ok (.bipush 8, 2) := by decide +kernel
theorem dX3_add_7 : decode cX3_add 7 = .ok (.imul, 1) := by decide +kernel
theorem dX3_add_8 : decode cX3_add 8 = .ok (.iload_n 2, 1) := by decide +kernel
theorem dX3_add_9 : decode cX3_add 9 = .ok (.iadd, 1) := by decide +kernel
theorem dX3_add_10 : decode cX3_add 10 = .ok (.dup2, 1) := by decide +kernel
theorem dX3_add_11 : decode cX3_add 11 = .ok (.iaload, 1) := by decide +kernel
theorem dX3_add_12 : decode cX3_add 12 = .ok (.iload_n 3, 1) := by decide +kernel
theorem dX3_add_13 : decode cX3_add 13 = .ok (.iadd, 1) := by decide +kernel
theorem dX3_add_14 : decode cX3_add 14 = .ok (.iastore, 1) := by decide +kernel
theorem dX3_add_15 : decode cX3_add 15 = .ok (.return_, 1) := by decide +kernel
theorem dX3_clearFigures_0 : decode cX3_clearFigures 0 = .ok (.iconst 0, 1) := by decide +kernel
theorem dX3_clearFigures_1 : decode cX3_clearFigures 1 = .ok (.istore_n 2, 1) := by decide +kernel
theorem dX3_clearFigures_2 : decode cX3_clearFigures 2 = .ok (.iload_n 2, 1) := by decide +kernel
theorem dX3_clearFigures_3 : decode cX3_clearFigures 3 = .ok (.bipush 8, 2) := by decide +kernel
theorem dX3_clearFigures_5 : decode cX3_clearFigures 5 = .ok (.if_icmp .ge 21, 3) := by decide +kernel
theorem dX3_clearFigures_8 : decode cX3_clearFigures 8 = .ok (.aload_n 0, 1) := by decide +kernel
theorem dX3_clearFigures_9 : decode cX3_clearFigures 9 = .ok (.getfield 9, 3) := by decide +kernel
theorem dX3_clearFigures_12 : decode cX3_clearFigures 12 = .ok (.iload_n 1, 1) := by decide +kernel
theorem dX3_clearFigures_13 : decode cX3_clearFigures 13 = .ok (.bipush 8, 2) := by decide +kernel
theorem dX3_clearFigures_15 : decode cX3_clearFigures 15 = .ok (.imul, 1) := by decide +kernel
theorem dX3_clearFigures_16 : decode cX3_clearFigures 16 = .ok (.iload_n 2, 1) := by decide +kernel
theorem dX3_clearFigures_17 : decode cX3_clearFigures 17 = .ok (.iadd, 1) := by decide +kernel
theorem dX3_clearFigures_18 : decode cX3_clearFigures 18 = .ok (.iconst 0, 1) := by decide +kernel
theorem dX3_clearFigures_19 : decode cX3_clearFigures 19 = .ok (.iastore, 1) := by decide +kernel
theorem dX3_clearFigures_20 : decode cX3_clearFigures 20 = .ok (.iinc 2 1, 3) := by decide +kernel
theorem dX3_clearFigures_23 : decode cX3_clearFigures 23 = .ok (.goto (-21), 3) := by decide +kernel
theorem dX3_clearFigures_26 : decode cX3_clearFigures 26 = .ok (.return_, 1) := by decide +kernel
theorem dX3_writeLog_0 : decode cX3_writeLog 0 = .ok (.bipush 20, 2) := by decide +kernel
theorem dX3_writeLog_2 : decode cX3_writeLog 2 = .ok (.istore_n 1, 1) := by decide +kernel
theorem dX3_writeLog_3 : decode cX3_writeLog 3 = .ok (.aload_n 0, 1) := by decide +kernel
theorem dX3_writeLog_4 : decode cX3_writeLog 4 = .ok (.getfield 27, 3) := by decide +kernel
theorem dX3_writeLog_7 : decode cX3_writeLog 7 = .ok (.arraylength, 1) := by decide +kernel
theorem dX3_writeLog_8 : decode cX3_writeLog 8 = .ok (.iconst 1, 1) := by decide +kernel
theorem dX3_writeLog_9 : decode cX3_writeLog 9 = .ok (.isub, 1) := by decide +kernel
theorem dX3_writeLog_10 : decode cX3_writeLog 10 = .ok (.istore_n 2, 1) := by decide +kernel
theorem dX3_writeLog_11 : decode cX3_writeLog 11 = .ok (.iload_n 2, 1) := by decide +kernel
theorem dX3_writeLog_12 : decode cX3_writeLog 12 = .ok (.iload_n 1, 1) := by decide +kernel
theorem dX3_writeLog_13 : decode cX3_writeLog 13 = .ok (.if_icmp .lt 23, 3) := by decide +kernel
theorem dX3_writeLog_16 : decode cX3_writeLog 16 = .ok (.aload_n 0, 1) := by decide +kernel
theorem dX3_writeLog_17 : decode cX3_writeLog 17 = .ok (.getfield 27, 3) := by decide +kernel
theorem dX3_writeLog_20 : decode cX3_writeLog 20 = .ok (.iload_n 2, 1) := by decide +kernel
theorem dX3_writeLog_21 : decode cX3_writeLog 21 = .ok (.aload_n 0, 1) := by decide +kernel
theorem dX3_writeLog_22 : decode cX3_writeLog 22 = .ok (.getfield 27, 3) := by decide +kernel
theorem dX3_writeLog_25 : decode cX3_writeLog 25 = .ok (.iload_n 2, 1) := by decide +kernel
theorem dX3_writeLog_26 : decode cX3_writeLog 26 = .ok (.iload_n 1, 1) := by decide +kernel
theorem dX3_writeLog_27 : decode cX3_writeLog 27 = .ok (.isub, 1) := by decide +kernel
theorem dX3_writeLog_28 : decode cX3_writeLog 28 = .ok (.iaload, 1) := by decide +kernel
theorem dX3_writeLog_29 : decode cX3_writeLog 29 = .ok (.iastore, 1) := by decide +kernel
theorem dX3_writeLog_30 : decode cX3_writeLog 30 = .ok (.iinc 2 (-1), 3) := by decide +kernel
theorem dX3_writeLog_33 : decode cX3_writeLog 33 = .ok (.goto (-22), 3) := by decide +kernel
theorem dX3_writeLog_36 : decode cX3_writeLog 36 = .ok (.iconst 0, 1) := by decide +kernel
theorem dX3_writeLog_37 : decode cX3_writeLog 37 = .ok (.istore_n 2, 1) := by decide +kernel
theorem dX3_writeLog_38 : decode cX3_writeLog 38 = .ok (.iload_n 2, 1) := by decide +kernel
theorem dX3_writeLog_39 : decode cX3_writeLog 39 = .ok (.iconst 4, 1) := by decide +kernel
theorem dX3_writeLog_40 : decode cX3_writeLog 40 = .ok (.if_icmp .ge 43, 3) := by decide +kernel
theorem dX3_writeLog_43 : decode cX3_writeLog 43 = .ok (.iconst 0, 1) := by decide +kernel
theorem dX3_writeLog_44 : decode cX3_writeLog 44 = .ok (.istore_n 3, 1) := by decide +kernel
theorem dX3_writeLog_45 : decode cX3_writeLog 45 = .ok (.iload_n 3, 1) := by decide +kernel
theorem dX3_writeLog_46 : decode cX3_writeLog 46 = .ok (.iconst 5, 1) := by decide +kernel
theorem dX3_writeLog_47 : decode cX3_writeLog 47 = .ok (.if_icmp .ge 30, 3) := by decide +kernel
theorem dX3_writeLog_50 : decode cX3_writeLog 50 = .ok (.aload_n 0, 1) := by decide +kernel
theorem dX3_writeLog_51 : decode cX3_writeLog 51 = .ok (.getfield 27, 3) := by decide +kernel
theorem dX3_writeLog_54 : decode cX3_writeLog 54 = .ok (.iconst 0, 1) := by decide +kernel
theorem dX3_writeLog_55 : decode cX3_writeLog 55 = .ok (.iload_n 2, 1) := by decide +kernel
theorem dX3_writeLog_56 : decode cX3_writeLog 56 = .ok (.iload_n 3, 1) := by decide +kernel
theorem dX3_writeLog_57 : decode cX3_writeLog 57 = .ok (.invokestatic 40, 3) := by decide +kernel
theorem dX3_writeLog_60 : decode cX3_writeLog 60 = .ok (.aload_n 0, 1) := by decide +kernel
theorem dX3_writeLog_61 : decode cX3_writeLog 61 = .ok (.iload_n 2, 1) := by decide +kernel
theorem dX3_writeLog_62 : decode cX3_writeLog 62 = .ok (.getstatic 44, 3) := by decide +kernel
theorem dX3_writeLog_65 : decode cX3_writeLog 65 = .ok (.iload_n 3, 1) := by decide +kernel
theorem dX3_writeLog_66 : decode cX3_writeLog 66 = .ok (.iaload, 1) := by decide +kernel
theorem dX3_writeLog_67 : decode cX3_writeLog 67 = .ok (.invokevirtual 47, 3) := by decide +kernel
theorem dX3_writeLog_70 : decode cX3_writeLog 70 = .ok (.iastore, 1) := by decide +kernel
theorem dX3_writeLog_71 : decode cX3_writeLog 71 = .ok (.iinc 3 1, 3) := by decide +kernel
theorem dX3_writeLog_74 : decode cX3_writeLog 74 = .ok (.goto (-29), 3) := by decide +kernel
theorem dX3_writeLog_77 : decode cX3_writeLog 77 = .ok (.iinc 2 1, 3) := by decide +kernel
theorem dX3_writeLog_80 : decode cX3_writeLog 80 = .ok (.goto (-42), 3) := by decide +kernel
theorem dX3_writeLog_83 : decode cX3_writeLog 83 = .ok (.aload_n 0, 1) := by decide +kernel
theorem dX3_writeLog_84 : decode cX3_writeLog 84 = .ok (.aload_n 0, 1) := by decide +kernel
theorem dX3_writeLog_85 : decode cX3_writeLog 85 = .ok (.getfield 36, 3) := by decide +kernel
theorem dX3_writeLog_88 : decode cX3_writeLog 88 = .ok (.iconst 1, 1) := by decide +kernel
theorem dX3_writeLog_89 : decode cX3_writeLog 89 = .ok (.iadd, 1) := by decide +kernel
theorem dX3_writeLog_90 : decode cX3_writeLog 90 = .ok (.bipush 8, 2) := by decide +kernel
theorem dX3_writeLog_92 : decode cX3_writeLog 92 = .ok (.invokestatic 51, 3) := by decide +kernel
theorem dX3_writeLog_95 : decode cX3_writeLog 95 = .ok (.putfield 36, 3) := by decide +kernel
theorem dX3_writeLog_98 : decode cX3_writeLog 98 = .ok (.return_, 1) := by decide +kernel
theorem dX4_init_0 : decode cX4_init 0 = .ok (.aload_n 0, 1) := by decide +kernel
theorem dX4_init_1 : decode cX4_init 1 = .ok (.invokespecial 3, 3) := by decide +kernel
theorem dX4_init_4 : decode cX4_init 4 = .ok (.aload_n 0, 1) := by decide +kernel
theorem dX4_init_5 : decode cX4_init 5 = .ok (.new 9, 3) := by decide +kernel
theorem dX4_init_8 : decode cX4_init 8 = .ok (.dup, 1) := by decide +kernel
theorem dX4_init_9 : decode cX4_init 9 = .ok (.invokespecial 11, 3) := by decide +kernel
theorem dX4_init_12 : decode cX4_init 12 = .ok (.putfield 12, 3) := by decide +kernel
theorem dX4_init_15 : decode cX4_init 15 = .ok (.aload_n 0, 1) := by decide +kernel
theorem dX4_init_16 : decode cX4_init 16 = .ok (.new 18, 3) := by decide +kernel
theorem dX4_init_19 : decode cX4_init 19 = .ok (.dup, 1) := by decide +kernel
theorem dX4_init_20 : decode cX4_init 20 = .ok (.invokespecial 20, 3) := by decide +kernel
theorem dX4_init_23 : decode cX4_init 23 = .ok (.putfield 21, 3) := by decide +kernel
theorem dX4_init_26 : decode cX4_init 26 = .ok (.return_, 1) := by decide +kernel
theorem dX4_readText_0 : decode cX4_readText 0 = .ok (.aload_n 0, 1) := by decide +kernel
theorem dX4_readText_1 : decode cX4_readText 1 = .ok (.iconst 0, 1) := by decide +kernel
theorem dX4_readText_2 : decode cX4_readText 2 = .ok (.putfield 25, 3) := by decide +kernel
theorem dX4_readText_5 : decode cX4_readText 5 = .ok (.aload_n 0, 1) := by decide +kernel
theorem dX4_readText_6 : decode cX4_readText 6 = .ok (.iconst 0, 1) := by decide +kernel
theorem dX4_readText_7 : decode cX4_readText 7 = .ok (.putfield 29, 3) := by decide +kernel
theorem dX4_readText_10 : decode cX4_readText 10 = .ok (.aload_n 0, 1) := by decide +kernel
theorem dX4_readText_11 : decode cX4_readText 11 = .ok (.getfield 21, 3) := by decide +kernel
theorem dX4_readText_14 : decode cX4_readText 14 = .ok (.invokevirtual 32, 3) := by decide +kernel
theorem dX4_readText_17 : decode cX4_readText 17 = .ok (.aload_n 0, 1) := by decide +kernel
theorem dX4_readText_18 : decode cX4_readText 18 = .ok (.invokevirtual 35, 3) := by decide +kernel
theorem dX4_readText_21 : decode cX4_readText 21 = .ok (.iconst 0, 1) := by decide +kernel
theorem dX4_readText_22 : decode cX4_readText 22 = .ok (.istore_n 1, 1) := by decide +kernel
theorem dX4_readText_23 : decode cX4_readText 23 = .ok (.iload_n 1, 1) := by decide +kernel
theorem dX4_readText_24 : decode cX4_readText 24 = .ok (.sipush 400, 3) := by decide +kernel
theorem dX4_readText_27 : decode cX4_readText 27 = .ok (.if_icmp .gt 31, 3) := by decide +kernel
theorem dX4_readText_30 : decode cX4_readText 30 = .ok (.aload_n 0, 1) := by decide +kernel
theorem dX4_readText_31 : decode cX4_readText 31 = .ok (.getfield 29, 3) := by decide +kernel
theorem dX4_readText_34 : decode cX4_readText 34 = .ok (.ifCond .ne 24, 3) := by decide +kernel
theorem dX4_readText_37 : decode cX4_readText 37 = .ok (.aload_n 0, 1) := by decide +kernel
theorem dX4_readText_38 : decode cX4_readText 38 = .ok (.invokevirtual 38, 3) := by decide +kernel
theorem dX4_readText_41 : decode cX4_readText 41 = .ok (.ifCond .ne 17, 3) := by decide +kernel
theorem dX4_readText_44 : decode cX4_readText 44 = .ok (.aload_n 0, 1) := by decide +kernel
theorem dX4_readText_45 : decode cX4_readText 45 = .ok (.invokevirtual 42, 3) := by decide +kernel
theorem dX4_readText_48 : decode cX4_readText 48 = .ok (.aload_n 0, 1) := by decide +kernel
theorem dX4_readText_49 : decode cX4_readText 49 = .ok (.invokevirtual 45, 3) := by decide +kernel
theorem dX4_readText_52 : decode cX4_readText 52 = .ok (.iinc 1 1, 3) := by decide +kernel
theorem dX4_readText_55 : decode cX4_readText 55 = .ok (.goto (-32), 3) := by decide +kernel
theorem dX4_readText_58 : decode cX4_readText 58 = .ok (.aload_n 0, 1) := by decide +kernel
theorem dX4_readText_59 : decode cX4_readText 59 = .ok (.getfield 29, 3) := by decide +kernel
theorem dX4_readText_62 : decode cX4_readText 62 = .ok (.ifCond .ne 25, 3) := by decide +kernel
theorem dX4_readText_65 : decode cX4_readText 65 = .ok (.aload_n 0, 1) := by decide +kernel
theorem dX4_readText_66 : decode cX4_readText 66 = .ok (.getfield 21, 3) := by decide +kernel
theorem dX4_readText_69 : decode cX4_readText 69 = .ok (.getfield 48, 3) := by decide +kernel
theorem dX4_readText_72 : decode cX4_readText 72 = .ok (.ifCond .ne 15, 3) := by decide +kernel
theorem dX4_readText_75 : decode cX4_readText 75 = .ok (.aload_n 0, 1) := by decide +kernel
theorem dX4_readText_76 : decode cX4_readText 76 = .ok (.aload_n 0, 1) := by decide +kernel
theorem dX4_readText_77 : decode cX4_readText 77 = .ok (.getfield 12, 3) := by decide +kernel
theorem dX4_readText_80 : decode cX4_readText 80 = .ok (.getfield 51, 3) := by decide +kernel
theorem dX4_readText_83 : decode cX4_readText 83 = .ok (.iconst 4, 1) := by decide +kernel
theorem dX4_readText_84 : decode cX4_readText 84 = .ok (.invokevirtual 54, 3) := by decide +kernel
theorem dX4_readText_87 : decode cX4_readText 87 = .ok (.aload_n 0, 1) := by decide +kernel
theorem dX4_readText_88 : decode cX4_readText 88 = .ok (.getfield 29, 3) := by decide +kernel
theorem dX4_readText_91 : decode cX4_readText 91 = .ok (.ireturn, 1) := by decide +kernel
theorem dX4_readTerms_0 : decode cX4_readTerms 0 = .ok (.aload_n 0, 1) := by decide +kernel
theorem dX4_readTerms_1 : decode cX4_readTerms 1 = .ok (.invokevirtual 58, 3) := by decide +kernel
theorem dX4_readTerms_4 : decode cX4_readTerms 4 = .ok (.aload_n 0, 1) := by decide +kernel
theorem dX4_readTerms_5 : decode cX4_readTerms 5 = .ok (.getfield 25, 3) := by decide +kernel
theorem dX4_readTerms_8 : decode cX4_readTerms 8 = .ok (.istore_n 1, 1) := by decide +kernel
theorem dX4_readTerms_9 : decode cX4_readTerms 9 = .ok (.aload_n 0, 1) := by decide +kernel
theorem dX4_readTerms_10 : decode cX4_readTerms 10 = .ok (.invokevirtual 61, 3) := by decide +kernel
theorem dX4_readTerms_13 : decode cX4_readTerms 13 = .ok (.aload_n 0, 1) := by decide +kernel
theorem dX4_readTerms_14 : decode cX4_readTerms 14 = .ok (.iload_n 1, 1) := by decide +kernel
theorem dX4_readTerms_15 : decode cX4_readTerms 15 = .ok (.ldc 64, 2) := by decide +kernel
theorem dX4_readTerms_17 : decode cX4_readTerms 17 = .ok (.invokevirtual 65, 3) := by decide +kernel
theorem dX4_readTerms_20 : decode cX4_readTerms 20 = .ok (.ifCond .ne 9, 3) := by decide +kernel
theorem dX4_readTerms_23 : decode cX4_readTerms 23 = .ok (.aload_n 0, 1) := by decide +kernel
theorem dX4_readTerms_24 : decode cX4_readTerms 24 = .ok (.iload_n 1, 1) := by decide +kernel
theorem dX4_readTerms_25 : decode cX4_readTerms 25 = .ok (.iconst 1, 1) := by decide +kernel
theorem dX4_readTerms_26 : decode cX4_readTerms 26 = .ok (.invokevirtual 54, 3) := by decide +kernel
theorem dX4_readTerms_29 : decode cX4_readTerms 29 = .ok (.iconst 0, 1) := by decide +kernel
theorem dX4_readTerms_30 : decode cX4_readTerms 30 = .ok (.istore_n 2, 1) := by decide +kernel
theorem dX4_readTerms_31 : decode cX4_readTerms 31 = .ok (.iload_n 2, 1) := by decide +kernel
theorem dX4_readTerms_32 : decode cX4_readTerms 32 = .ok (.iconst 5, 1) := by decide +kernel
theorem dX4_readTerms_33 : decode cX4_readTerms 33 = .ok (.if_icmp .gt 32, 3) := by decide +kernel
theorem dX4_readTerms_36 : decode cX4_readTerms 36 = .ok (.aload_n 0, 1) := by decide +kernel
theorem dX4_readTerms_37 : decode cX4_readTerms 37 = .ok (.getfield 21, 3) := by decide +kernel
theorem dX4_readTerms_40 : decode cX4_readTerms 40 = .ok (.getfield 69, 3) := by decide +kernel
theorem dX4_readTerms_43 : decode cX4_readTerms 43 = .ok (.iload_n 2, 1) := by decide +kernel
theorem dX4_readTerms_44 : decode cX4_readTerms 44 = .ok (.aload_n 0, 1) := by decide +kernel
theorem dX4_readTerms_45 : decode cX4_readTerms 45 = .ok (.getstatic 73, 3) := by decide +kernel
theorem dX4_readTerms_48 : decode cX4_readTerms 48 = .ok (.iload_n 2, 1) := by decide +kernel
theorem dX4_readTerms_49 : decode cX4_readTerms 49 = .ok (.iaload, 1) := by decide +kernel
theorem dX4_readTerms_50 : decode cX4_readTerms 50 = .ok (.getstatic 76, 3) := by decide +kernel
theorem dX4_readTerms_53 : decode cX4_readTerms 53 = .ok (.iload_n 2, 1) := by decide +kernel
theorem dX4_readTerms_54 : decode cX4_readTerms 54 = .ok (.iaload, 1) := by decide +kernel
theorem dX4_readTerms_55 : decode cX4_readTerms 55 = .ok (.invokevirtual 79, 3) := by decide +kernel
theorem dX4_readTerms_58 : decode cX4_readTerms 58 = .ok (.iastore, 1) := by decide +kernel
theorem dX4_readTerms_59 : decode cX4_readTerms 59 = .ok (.iinc 2 1, 3) := by decide +kernel
theorem dX4_readTerms_62 : decode cX4_readTerms 62 = .ok (.goto (-31), 3) := by decide +kernel
theorem dX4_readTerms_65 : decode cX4_readTerms 65 = .ok (.return_, 1) := by decide +kernel
theorem dX4_readSeparator_0 : decode cX4_readSeparator 0 = .ok (.aload_n 0, 1) := by decide +kernel
theorem dX4_readSeparator_1 : decode cX4_readSeparator 1 = .ok (.getfield 29, 3) := by decide +kernel
theorem dX4_readSeparator_4 : decode cX4_readSeparator 4 = .ok (.ifCond .eq 4, 3) := by decide +kernel
theorem dX4_readSeparator_7 : decode cX4_readSeparator 7 = .ok (.return_, 1) := by decide +kernel
theorem dX4_readSeparator_8 : decode cX4_readSeparator 8 = .ok (.aload_n 0, 1) := by decide +kernel
theorem dX4_readSeparator_9 : decode cX4_readSeparator 9 = .ok (.getfield 25, 3) := by decide +kernel
theorem dX4_readSeparator_12 : decode cX4_readSeparator 12 = .ok (.aload_n 0, 1) := by decide +kernel
theorem dX4_readSeparator_13 : decode cX4_readSeparator 13 = .ok (.getfield 12, 3) := by decide +kernel
theorem dX4_readSeparator_16 : decode cX4_readSeparator 16 = .ok (.getfield 51, 3) := by decide +kernel
theorem dX4_readSeparator_19 : decode cX4_readSeparator 19 = .ok (.if_icmp .ge 33, 3) := by decide +kernel
theorem dX4_readSeparator_22 : decode cX4_readSeparator 22 = .ok (.aload_n 0, 1) := by decide +kernel
theorem dX4_readSeparator_23 : decode cX4_readSeparator 23 = .ok (.getfield 12, 3) := by decide +kernel
theorem dX4_readSeparator_26 : decode cX4_readSeparator 26 = .ok (.getfield 83, 3) := by decide +kernel
theorem dX4_readSeparator_29 : decode cX4_readSeparator 29 = .ok (.aload_n 0, 1) := by decide +kernel
theorem dX4_readSeparator_30 : decode cX4_readSeparator 30 = .ok (.getfield 25, 3) := by decide +kernel
theorem dX4_readSeparator_33 : decode cX4_readSeparator 33 = .ok (.baload, 1) := by decide +kernel
theorem dX4_readSeparator_34 : decode cX4_readSeparator 34 = .ok (.bipush 59, 2) := by decide +kernel
theorem dX4_readSeparator_36 : decode cX4_readSeparator 36 = .ok (.if_icmp .ne 16, 3) := by decide +kernel
theorem dX4_readSeparator_39 : decode cX4_readSeparator 39 = .ok (.aload_n 0, 1) := by decide +kernel
theorem dX4_readSeparator_40 : decode cX4_readSeparator 40 = .ok (.dup, 1) := by decide +kernel
theorem dX4_readSeparator_41 : decode cX4_readSeparator 41 = .ok (.getfield 25, 3) := by decide +kernel
theorem dX4_readSeparator_44 : decode cX4_readSeparator 44 = .ok (.iconst 1, 1) := by decide +kernel
theorem dX4_readSeparator_45 : decode cX4_readSeparator 45 = .ok (.iadd, 1) := by decide +kernel
theorem dX4_readSeparator_46 : decode cX4_readSeparator 46 = .ok (.putfield 25, 3) := by decide +kernel
theorem dX4_readSeparator_49 : decode cX4_readSeparator 49 = .ok (.goto 12, 3) := by decide +kernel
theorem dX4_readSeparator_52 : decode cX4_readSeparator 52 = .ok (.aload_n 0, 1) := by decide +kernel
theorem dX4_readSeparator_53 : decode cX4_readSeparator 53 = .ok (.aload_n 0, 1) := by decide +kernel
theorem dX4_readSeparator_54 : decode cX4_readSeparator 54 = .ok (.getfield 25, 3) := by decide +kernel
theorem dX4_readSeparator_57 : decode cX4_readSeparator 57 = .ok (.iconst 1, 1) := by decide +kernel
theorem dX4_readSeparator_58 : decode cX4_readSeparator 58 = .ok (.invokevirtual 54, 3) := by decide +kernel
theorem dX4_readSeparator_61 : decode cX4_readSeparator 61 = .ok (.return_, 1) := by decide +kernel
theorem dX4_readPiece_0 : decode cX4_readPiece 0 = .ok (.aload_n 0, 1) := by decide +kernel
theorem dX4_readPiece_1 : decode cX4_readPiece 1 = .ok (.getfield 29, 3) := by decide +kernel
theorem dX4_readPiece_4 : decode cX4_readPiece 4 = .ok (.ifCond .eq 4, 3) := by decide +kernel
theorem dX4_readPiece_7 : decode cX4_readPiece 7 = .ok (.return_, 1) := by decide +kernel
theorem dX4_readPiece_8 : decode cX4_readPiece 8 = .ok (.aload_n 0, 1) := by decide +kernel
theorem dX4_readPiece_9 : decode cX4_readPiece 9 = .ok (.invokevirtual 58, 3) := by decide +kernel
theorem dX4_readPiece_12 : decode cX4_readPiece 12 = .ok (.aload_n 0, 1) := by decide +kernel
theorem dX4_readPiece_13 : decode cX4_readPiece 13 = .ok (.getfield 25, 3) := by decide +kernel
theorem dX4_readPiece_16 : decode cX4_readPiece 16 = .ok (.istore_n 1, 1) := by decide +kernel
theorem dX4_readPiece_17 : decode cX4_readPiece 17 = .ok (.aload_n 0, 1) := by decide +kernel
theorem dX4_readPiece_18 : decode cX4_readPiece 18 = .ok (.invokevirtual 61, 3) := by decide +kernel
theorem dX4_readPiece_21 : decode cX4_readPiece 21 = .ok (.aload_n 0, 1) := by decide +kernel
theorem dX4_readPiece_22 : decode cX4_readPiece 22 = .ok (.iload_n 1, 1) := by decide +kernel
theorem dX4_readPiece_23 : decode cX4_readPiece 23 = .ok (.ldc 87, 2) := by decide +kernel
theorem dX4_readPiece_25 : decode cX4_readPiece 25 = .ok (.invokevirtual 65, 3) := by decide +kernel
theorem dX4_readPiece_28 : decode cX4_readPiece 28 = .ok (.ifCond .eq 11, 3) := by decide +kernel
theorem dX4_readPiece_31 : decode cX4_readPiece 31 = .ok (.aload_n 0, 1) := by decide +kernel
theorem dX4_readPiece_32 : decode cX4_readPiece 32 = .ok (.iload_n 1, 1) := by decide +kernel
theorem dX4_readPiece_33 : decode cX4_readPiece 33 = .ok (.invokevirtual 89, 3) := by decide +kernel
theorem dX4_readPiece_36 : decode cX4_readPiece 36 = .ok (.goto 44, 3) := by decide +kernel
theorem dX4_readPiece_39 : decode cX4_readPiece 39 = .ok (.aload_n 0, 1) := by decide +kernel
theorem dX4_readPiece_40 : decode cX4_readPiece 40 = .ok (.iload_n 1, 1) := by decide +kernel
theorem dX4_readPiece_41 : decode cX4_readPiece 41 = .ok (.ldc 93, 2) := by decide +kernel
theorem dX4_readPiece_43 : decode cX4_readPiece 43 = .ok (.invokevirtual 65, 3) := by decide +kernel
theorem dX4_readPiece_46 : decode cX4_readPiece 46 = .ok (.ifCond .eq 11, 3) := by decide +kernel
theorem dX4_readPiece_49 : decode cX4_readPiece 49 = .ok (.aload_n 0, 1) := by decide +kernel
theorem dX4_readPiece_50 : decode cX4_readPiece 50 = .ok (.iload_n 1, 1) := by decide +kernel
theorem dX4_readPiece_51 : decode cX4_readPiece 51 = .ok (.invokevirtual 95, 3) := by decide +kernel
theorem dX4_readPiece_54 : decode cX4_readPiece 54 = .ok (.goto 26, 3) := by decide +kernel
theorem dX4_readPiece_57 : decode cX4_readPiece 57 = .ok (.aload_n 0, 1) := by decide +kernel
theorem dX4_readPiece_58 : decode cX4_readPiece 58 = .ok (.iload_n 1, 1) := by decide +kernel
theorem dX4_readPiece_59 : decode cX4_readPiece 59 = .ok (.ldc 98, 2) := by decide +kernel
theorem dX4_readPiece_61 : decode cX4_readPiece 61 = .ok (.invokevirtual 65, 3) := by decide +kernel
theorem dX4_readPiece_64 : decode cX4_readPiece 64 = .ok (.ifCond .eq 10, 3) := by decide +kernel
theorem dX4_readPiece_67 : decode cX4_readPiece 67 = .ok (.aload_n 0, 1) := by decide +kernel
theorem dX4_readPiece_68 : decode cX4_readPiece 68 = .ok (.invokevirtual 100, 3) := by decide +kernel
theorem dX4_readPiece_71 : decode cX4_readPiece 71 = .ok (.goto 9, 3) := by decide +kernel
theorem dX4_readPiece_74 : decode cX4_readPiece 74 = .ok (.aload_n 0, 1) := by decide +kernel
theorem dX4_readPiece_75 : decode cX4_readPiece 75 = .ok (.iload_n 1, 1) := by decide +kernel
theorem dX4_readPiece_76 : decode cX4_readPiece 76 = .ok (.iconst 1, 1) := by decide +kernel
theorem dX4_readPiece_77 : decode cX4_readPiece 77 = .ok (.invokevirtual 54, 3) := by decide +kernel
theorem dX4_readPiece_80 : decode cX4_readPiece 80 = .ok (.return_, 1) := by decide +kernel
theorem dX4_readOrigin_0 : decode cX4_readOrigin 0 = .ok (.aload_n 0, 1) := by decide +kernel
theorem dX4_readOrigin_1 : decode cX4_readOrigin 1 = .ok (.getfield 21, 3) := by decide +kernel
theorem dX4_readOrigin_4 : decode cX4_readOrigin 4 = .ok (.getfield 48, 3) := by decide +kernel
theorem dX4_readOrigin_7 : decode cX4_readOrigin 7 = .ok (.iconst 4, 1) := by decide +kernel
theorem dX4_readOrigin_8 : decode cX4_readOrigin 8 = .ok (.if_icmp .lt 10, 3) := by decide +kernel
theorem dX4_readOrigin_11 : decode cX4_readOrigin 11 = .ok (.aload_n 0, 1) := by decide +kernel
theorem dX4_readOrigin_12 : decode cX4_readOrigin 12 = .ok (.iload_n 1, 1) := by decide +kernel
theorem dX4_readOrigin_13 : decode cX4_readOrigin 13 = .ok (.iconst 3, 1) := by decide +kernel
theorem dX4_readOrigin_14 : decode cX4_readOrigin 14 = .ok (.invokevirtual 54, 3) := by decide +kernel
theorem dX4_readOrigin_17 : decode cX4_readOrigin 17 = .ok (.return_, 1) := by decide +kernel
theorem dX4_readOrigin_18 : decode cX4_readOrigin 18 = .ok (.aload_n 0, 1) := by decide +kernel
theorem dX4_readOrigin_19 : decode cX4_readOrigin 19 = .ok (.getfield 21, 3) := by decide +kernel
theorem dX4_readOrigin_22 : decode cX4_readOrigin 22 = .ok (.getfield 103, 3) := by decide +kernel
theorem dX4_readOrigin_25 : decode cX4_readOrigin 25 = .ok (.aload_n 0, 1) := by decide +kernel
theorem dX4_readOrigin_26 : decode cX4_readOrigin 26 = .ok (.getfield 21, 3) := by decide +kernel
theorem dX4_readOrigin_29 : decode cX4_readOrigin 29 = .ok (.getfield 48, 3) := by decide +kernel
theorem dX4_readOrigin_32 : decode cX4_readOrigin 32 = .ok (.aload_n 0, 1) := by decide +kernel
theorem dX4_readOrigin_33 : decode cX4_readOrigin 33 = .ok (.iconst 0, 1) := by decide +kernel
theorem dX4_readOrigin_34 : decode cX4_readOrigin 34 = .ok (.ldc 106, 2) := by decide +kernel
theorem dX4_readOrigin_36 : decode cX4_readOrigin 36 = .ok (.invokevirtual 79, 3) := by decide +kernel
theorem dX4_readOrigin_39 : decode cX4_readOrigin 39 = .ok (.iastore, 1) := by decide +kernel
theorem dX4_readOrigin_40 : decode cX4_readOrigin 40 = .ok (.aload_n 0, 1) := by decide +kernel
theorem dX4_readOrigin_41 : decode cX4_readOrigin 41 = .ok (.getfield 21, 3) := by decide +kernel
theorem dX4_readOrigin_44 : decode cX4_readOrigin 44 = .ok (.dup, 1) := by decide +kernel
theorem dX4_readOrigin_45 : decode cX4_readOrigin 45 = .ok (.getfield 48, 3) := by decide +kernel
theorem dX4_readOrigin_48 : decode cX4_readOrigin 48 = .ok (.iconst 1, 1) := by decide +kernel
theorem dX4_readOrigin_49 : decode cX4_readOrigin 49 = .ok (.iadd, 1) := by decide +kernel
theorem dX4_readOrigin_50 : decode cX4_readOrigin 50 = .ok (.putfield 48, 3) := by decide +kernel
theorem dX4_readOrigin_53 : decode cX4_readOrigin 53 = .ok (.return_, 1) := by decide +kernel
theorem dX4_readImporter_0 : decode cX4_readImporter 0 = .ok (.aload_n 0, 1) := by decide +kernel
theorem dX4_readImporter_1 : decode cX4_readImporter 1 = .ok (.getfield 21, 3) := by decide +kernel
theorem dX4_readImporter_4 : decode cX4_readImporter 4 = .ok (.getfield 107, 3) := by decide +kernel
theorem dX4_readImporter_7 : decode cX4_readImporter 7 = .ok (.bipush 8, 2) := by decide +kernel
theorem dX4_readImporter_9 : decode cX4_readImporter 9 = .ok (.if_icmp .lt 10, 3) := by decide +kernel
theorem dX4_readImporter_12 : decode cX4_readImporter 12 = .ok (.aload_n 0, 1) := by decide +kernel
theorem dX4_readImporter_13 : decode cX4_readImporter 13 = .ok (.iload_n 1, 1) := by decide +kernel
theorem dX4_readImporter_14 : decode cX4_readImporter 14 = .ok (.iconst 3, 1) := by decide +kernel
theorem dX4_readImporter_15 : decode cX4_readImporter 15 = .ok (.invokevirtual 54, 3) := by decide +kernel
theorem dX4_readImporter_18 : decode cX4_readImporter 18 = .ok (.return_, 1) := by decide +kernel
theorem dX4_readImporter_19 : decode cX4_readImporter 19 = .ok (.aload_n 0, 1) := by decide +kernel
theorem dX4_readImporter_20 : decode cX4_readImporter 20 = .ok (.getfield 21, 3) := by decide +kernel
theorem dX4_readImporter_23 : decode cX4_readImporter 23 = .ok (.dup, 1) := by decide +kernel
theorem dX4_readImporter_24 : decode cX4_readImporter 24 = .ok (.getfield 107, 3) := by decide +kernel
theorem dX4_readImporter_27 : decode cX4_readImporter 27 = .ok (.iconst 1, 1) := by decide +kernel
theorem dX4_readImporter_28 : decode cX4_readImporter 28 = .ok (.iadd, 1) := by decide +kernel
theorem dX4_readImporter_29 : decode cX4_readImporter 29 = .ok (.putfield 107, 3) := by decide +kernel
theorem dX4_readImporter_32 : decode cX4_readImporter 32 = .ok (.return_, 1) := by decide +kernel
theorem dX4_readPast_0 : decode cX4_readPast 0 = .ok (.aload_n 0, 1) := by decide +kernel
theorem dX4_readPast_1 : decode cX4_readPast 1 = .ok (.iconst 0, 1) := by decide +kernel
theorem dX4_readPast_2 : decode cX4_readPast 2 = .ok (.aload_n 0, 1) := by decide +kernel
theorem dX4_readPast_3 : decode cX4_readPast 3 = .ok (.getfield 21, 3) := by decide +kernel
theorem dX4_readPast_6 : decode cX4_readPast 6 = .ok (.getfield 107, 3) := by decide +kernel
theorem dX4_readPast_9 : decode cX4_readPast 9 = .ok (.iconst 1, 1) := by decide +kernel
theorem dX4_readPast_10 : decode cX4_readPast 10 = .ok (.isub, 1) := by decide +kernel
theorem dX4_readPast_11 : decode cX4_readPast 11 = .ok (.invokevirtual 79, 3) := by decide +kernel
theorem dX4_readPast_14 : decode cX4_readPast 14 = .ok (.istore_n 1, 1) := by decide +kernel
theorem dX4_readPast_15 : decode cX4_readPast 15 = .ok (.aload_n 0, 1) := by decide +kernel
theorem dX4_readPast_16 : decode cX4_readPast 16 = .ok (.iconst 0, 1) := by decide +kernel
theorem dX4_readPast_17 : decode cX4_readPast 17 = .ok (.aload_n 0, 1) := by decide +kernel
theorem dX4_readPast_18 : decode cX4_readPast 18 = .ok (.getfield 21, 3) := by decide +kernel
theorem dX4_readPast_21 : decode cX4_readPast 21 = .ok (.getfield 48, 3) := by decide +kernel
theorem dX4_readPast_24 : decode cX4_readPast 24 = .ok (.iconst 1, 1) := by decide +kernel
theorem dX4_readPast_25 : decode cX4_readPast 25 = .ok (.isub, 1) := by decide +kernel
theorem dX4_readPast_26 : decode cX4_readPast 26 = .ok (.invokevirtual 79, 3) := by decide +kernel
theorem dX4_readPast_29 : decode cX4_readPast 29 = .ok (.istore_n 2, 1) := by decide +kernel
theorem dX4_readPast_30 : decode cX4_readPast 30 = .ok (.aload_n 0, 1) := by decide +kernel
theorem dX4_readPast_31 : decode cX4_readPast 31 = .ok (.iconst 0, 1) := by decide +kernel
theorem dX4_readPast_32 : decode cX4_readPast 32 = .ok (.ldc 106, 2) := by decide +kernel
theorem dX4_readPast_34 : decode cX4_readPast 34 = .ok (.invokevirtual 79, 3) := by decide +kernel
theorem dX4_readPast_37 : decode cX4_readPast 37 = .ok (.istore_n 3, 1) := by decide +kernel
theorem dX4_readPast_38 : decode cX4_readPast 38 = .ok (.aload_n 0, 1) := by decide +kernel
theorem dX4_readPast_39 : decode cX4_readPast 39 = .ok (.iconst 0, 1) := by decide +kernel
theorem dX4_readPast_40 : decode cX4_readPast 40 = .ok (.ldc 106, 2) := by decide +kernel
theorem dX4_readPast_42 : decode cX4_readPast 42 = .ok (.invokevirtual 79, 3) := by decide +kernel
theorem dX4_readPast_45 : decode cX4_readPast 45 = .ok (.istore 4, 2) := by decide +kernel
theorem dX4_readPast_47 : decode cX4_readPast 47 = .ok (.aload_n 0, 1) := by decide +kernel
theorem dX4_readPast_48 : decode cX4_readPast 48 = .ok (.iconst 0, 1) := by decide +kernel
theorem dX4_readPast_49 : decode cX4_readPast 49 = .ok (.ldc 106, 2) := by decide +kernel
theorem dX4_readPast_51 : decode cX4_readPast 51 = .ok (.invokevirtual 79, 3) := by decide +kernel
theorem dX4_readPast_54 : decode cX4_readPast 54 = .ok (.istore 5, 2) := by decide +kernel
theorem dX4_readPast_56 : decode cX4_readPast 56 = .ok (.aload_n 0, 1) := by decide +kernel
theorem dX4_readPast_57 : decode cX4_readPast 57 = .ok (.getfield 29, 3) := by decide +kernel
theorem dX4_readPast_60 : decode cX4_readPast 60 = .ok (.ifCond .ne 45, 3) := by decide +kernel
theorem dX4_readPast_63 : decode cX4_readPast 63 = .ok (.iload_n 1, 1) := by decide +kernel
theorem dX4_readPast_64 : decode cX4_readPast 64 = .ok (.iload_n 2, 1) := by decide +kernel
theorem dX4_readPast_65 : decode cX4_readPast 65 = .ok (.invokestatic 110, 3) := by decide +kernel
theorem dX4_readPast_68 : decode cX4_readPast 68 = .ok (.istore 6, 2) := by decide +kernel
theorem dX4_readPast_70 : decode cX4_readPast 70 = .ok (.aload_n 0, 1) := by decide +kernel
theorem dX4_readPast_71 : decode cX4_readPast 71 = .ok (.getfield 21, 3) := by decide +kernel
theorem dX4_readPast_74 : decode cX4_readPast 74 = .ok (.iload 6, 2) := by decide +kernel
theorem dX4_readPast_76 : decode cX4_readPast 76 = .ok (.iconst 2, 1) := by decide +kernel
theorem dX4_readPast_77 : decode cX4_readPast 77 = .ok (.iload_n 3, 1) := by decide +kernel
theorem dX4_readPast_78 : decode cX4_readPast 78 = .ok (.invokevirtual 113, 3) := by decide +kernel
theorem dX4_readPast_81 : decode cX4_readPast 81 = .ok (.aload_n 0, 1) := by decide +kernel
theorem dX4_readPast_82 : decode cX4_readPast 82 = .ok (.getfield 21, 3) := by decide +kernel
theorem dX4_readPast_85 : decode cX4_readPast 85 = .ok (.iload 6, 2) := by decide +kernel
theorem dX4_readPast_87 : decode cX4_readPast 87 = .ok (.iconst 1, 1) := by decide +kernel
theorem dX4_readPast_88 : decode cX4_readPast 88 = .ok (.iload 4, 2) := by decide +kernel
theorem dX4_readPast_90 : decode cX4_readPast 90 = .ok (.invokevirtual 113, 3) := by decide +kernel
theorem dX4_readPast_93 : decode cX4_readPast 93 = .ok (.aload_n 0, 1) := by decide +kernel
theorem dX4_readPast_94 : decode cX4_readPast 94 = .ok (.getfield 21, 3) := by decide +kernel
theorem dX4_readPast_97 : decode cX4_readPast 97 = .ok (.iload 6, 2) := by decide +kernel
theorem dX4_readPast_99 : decode cX4_readPast 99 = .ok (.iconst 0, 1) := by decide +kernel
theorem dX4_readPast_100 : decode cX4_readPast 100 = .ok (.iload 5, 2) := by decide +kernel
theorem dX4_readPast_102 : decode cX4_readPast 102 = .ok (.invokevirtual 113, 3) := by decide +kernel
theorem dX4_readPast_105 : decode cX4_readPast 105 = .ok (.return_, 1) := by decide +kernel
theorem dX4_readNumber_0 : decode cX4_readNumber 0 = .ok (.aload_n 0, 1) := by decide +kernel
theorem dX4_readNumber_1 : decode cX4_readNumber 1 = .ok (.getfield 29, 3) := by decide +kernel
theorem dX4_readNumber_4 : decode cX4_readNumber 4 = .ok (.ifCond .eq 5, 3) := by decide +kernel
theorem dX4_readNumber_7 : decode cX4_readNumber 7 = .ok (.iconst 0, 1) := by decide +kernel
theorem dX4_readNumber_8 : decode cX4_readNumber 8 = .ok (.ireturn, 1) := by decide +kernel
theorem dX4_readNumber_9 : decode cX4_readNumber 9 = .ok (.aload_n 0, 1) := by decide +kernel
theorem dX4_readNumber_10 : decode cX4_readNumber 10 = .ok (.invokevirtual 58, 3) := by decide +kernel
theorem dX4_readNumber_13 : decode cX4_readNumber 13 = .ok (.aload_n 0, 1) := by decide +kernel
theorem dX4_readNumber_14 : decode cX4_readNumber 14 = .ok (.getfield 25, 3) := by decide +kernel
theorem dX4_readNumber_17 : decode cX4_readNumber 17 = .ok (.istore_n 3, 1) := by decide +kernel
theorem dX4_readNumber_18 : decode cX4_readNumber 18 = .ok (.iconst 0, 1) := by decide +kernel
theorem dX4_readNumber_19 : decode cX4_readNumber 19 = .ok (.istore 4, 2) := by decide +kernel
theorem dX4_readNumber_21 : decode cX4_readNumber 21 = .ok (.aload_n 0, 1) := by decide +kernel
theorem dX4_readNumber_22 : decode cX4_readNumber 22 = .ok (.getfield 25, 3) := by decide +kernel
theorem dX4_readNumber_25 : decode cX4_readNumber 25 = .ok (.aload_n 0, 1) := by decide +kernel
theorem dX4_readNumber_26 : decode cX4_readNumber 26 = .ok (.getfield 12, 3) := by decide +kernel
theorem dX4_readNumber_29 : decode cX4_readNumber 29 = .ok (.getfield 51, 3) := by decide +kernel
theorem dX4_readNumber_32 : decode cX4_readNumber 32 = .ok (.if_icmp .ge 78, 3) := by decide +kernel
theorem dX4_readNumber_35 : decode cX4_readNumber 35 = .ok (.aload_n 0, 1) := by decide +kernel
theorem dX4_readNumber_36 : decode cX4_readNumber 36 = .ok (.getfield 12, 3) := by decide +kernel
theorem dX4_readNumber_39 : decode cX4_readNumber 39 = .ok (.getfield 83, 3) := by decide +kernel
theorem dX4_readNumber_42 : decode cX4_readNumber 42 = .ok (.aload_n 0, 1) := by decide +kernel
theorem dX4_readNumber_43 : decode cX4_readNumber 43 = .ok (.getfield 25, 3) := by decide +kernel
theorem dX4_readNumber_46 : decode cX4_readNumber 46 = .ok (.baload, 1) := by decide +kernel
theorem dX4_readNumber_47 : decode cX4_readNumber 47 = .ok (.bipush 48, 2) := by decide +kernel
theorem dX4_readNumber_49 : decode cX4_readNumber 49 = .ok (.if_icmp .lt 61, 3) := by decide +kernel
theorem dX4_readNumber_52 : decode cX4_readNumber 52 = .ok (.aload_n 0, 1) := by decide +kernel
theorem dX4_readNumber_53 : decode cX4_readNumber 53 = .ok (.getfield 12, 3) := by decide +kernel
theorem dX4_readNumber_56 : decode cX4_readNumber 56 = .ok (.getfield 83, 3) := by decide +kernel
theorem dX4_readNumber_59 : decode cX4_readNumber 59 = .ok (.aload_n 0, 1) := by decide +kernel
theorem dX4_readNumber_60 : decode cX4_readNumber 60 = .ok (.getfield 25, 3) := by decide +kernel
theorem dX4_readNumber_63 : decode cX4_readNumber 63 = .ok (.baload, 1) := by decide +kernel
theorem dX4_readNumber_64 : decode cX4_readNumber 64 = .ok (.bipush 57, 2) := by decide +kernel
theorem dX4_readNumber_66 : decode cX4_readNumber 66 = .ok (.if_icmp .gt 44, 3) := by decide +kernel
theorem dX4_readNumber_69 : decode cX4_readNumber 69 = .ok (.iload 4, 2) := by decide +kernel
theorem dX4_readNumber_71 : decode cX4_readNumber 71 = .ok (.bipush 10, 2) := by decide +kernel
theorem dX4_readNumber_73 : decode cX4_readNumber 73 = .ok (.imul, 1) := by decide +kernel
theorem dX4_readNumber_74 : decode cX4_readNumber 74 = .ok (.aload_n 0, 1) := by decide +kernel
theorem dX4_readNumber_75 : decode cX4_readNumber 75 = .ok (.getfield 12, 3) := by decide +kernel
theorem dX4_readNumber_78 : decode cX4_readNumber 78 = .ok (.getfield 83, 3) := by decide +kernel
theorem dX4_readNumber_81 : decode cX4_readNumber 81 = .ok (.aload_n 0, 1) := by decide +kernel
theorem dX4_readNumber_82 : decode cX4_readNumber 82 = .ok (.getfield 25, 3) := by decide +kernel
theorem dX4_readNumber_85 : decode cX4_readNumber 85 = .ok (.baload, 1) := by decide +kernel
theorem dX4_readNumber_86 : decode cX4_readNumber 86 = .ok (.iadd, 1) := by decide +kernel
theorem dX4_readNumber_87 : decode cX4_readNumber 87 = .ok (.bipush 48, 2) := by decide +kernel
theorem dX4_readNumber_89 : decode cX4_readNumber 89 = .ok (.isub, 1) := by decide +kernel
theorem dX4_readNumber_90 : decode cX4_readNumber 90 = .ok (.ldc 117, 2) := by decide +kernel
theorem dX4_readNumber_92 : decode cX4_readNumber 92 = .ok (.invokestatic 118, 3) := by decide +kernel
theorem dX4_readNumber_95 : decode cX4_readNumber 95 = .ok (.istore 4, 2) := by decide +kernel
theorem dX4_readNumber_97 : decode cX4_readNumber 97 = .ok (.aload_n 0, 1) := by decide +kernel
theorem dX4_readNumber_98 : decode cX4_readNumber 98 = .ok (.dup, 1) := by decide +kernel
theorem dX4_readNumber_99 : decode cX4_readNumber 99 = .ok (.getfield 25, 3) := by decide +kernel
theorem dX4_readNumber_102 : decode cX4_readNumber 102 = .ok (.iconst 1, 1) := by decide +kernel
theorem dX4_readNumber_103 : decode cX4_readNumber 103 = .ok (.iadd, 1) := by decide +kernel
theorem dX4_readNumber_104 : decode cX4_readNumber 104 = .ok (.putfield 25, 3) := by decide +kernel
theorem dX4_readNumber_107 : decode cX4_readNumber 107 = .ok (.goto (-86), 3) := by decide +kernel
theorem dX4_readNumber_110 : decode cX4_readNumber 110 = .ok (.aload_n 0, 1) := by decide +kernel
theorem dX4_readNumber_111 : decode cX4_readNumber 111 = .ok (.getfield 25, 3) := by decide +kernel
theorem dX4_readNumber_114 : decode cX4_readNumber 114 = .ok (.iload_n 3, 1) := by decide +kernel
theorem dX4_readNumber_115 : decode cX4_readNumber 115 = .ok (.if_icmp .ne 11, 3) := by decide +kernel
theorem dX4_readNumber_118 : decode cX4_readNumber 118 = .ok (.aload_n 0, 1) := by decide +kernel
theorem dX4_readNumber_119 : decode cX4_readNumber 119 = .ok (.iload_n 3, 1) := by decide +kernel
theorem dX4_readNumber_120 : decode cX4_readNumber 120 = .ok (.iconst 1, 1) := by decide +kernel
theorem dX4_readNumber_121 : decode cX4_readNumber 121 = .ok (.invokevirtual 54, 3) := by decide +kernel
theorem dX4_readNumber_124 : decode cX4_readNumber 124 = .ok (.iconst 0, 1) := by decide +kernel
theorem dX4_readNumber_125 : decode cX4_readNumber 125 = .ok (.ireturn, 1) := by decide +kernel
theorem dX4_readNumber_126 : decode cX4_readNumber 126 = .ok (.iload 4, 2) := by decide +kernel
theorem dX4_readNumber_128 : decode cX4_readNumber 128 = .ok (.iload_n 1, 1) := by decide +kernel
theorem dX4_readNumber_129 : decode cX4_readNumber 129 = .ok (.if_icmp .lt 9, 3) := by decide +kernel
theorem dX4_readNumber_132 : decode cX4_readNumber 132 = .ok (.iload 4, 2) := by decide +kernel
theorem dX4_readNumber_134 : decode cX4_readNumber 134 = .ok (.iload_n 2, 1) := by decide +kernel
theorem dX4_readNumber_135 : decode cX4_readNumber 135 = .ok (.if_icmp .le 11, 3) := by decide +kernel
theorem dX4_readNumber_138 : decode cX4_readNumber 138 = .ok (.aload_n 0, 1) := by decide +kernel
theorem dX4_readNumber_139 : decode cX4_readNumber 139 = .ok (.iload_n 3, 1) := by decide +kernel
theorem dX4_readNumber_140 : decode cX4_readNumber 140 = .ok (.iconst 2, 1) := by decide +kernel
theorem dX4_readNumber_141 : decode cX4_readNumber 141 = .ok (.invokevirtual 54, 3) := by decide +kernel
theorem dX4_readNumber_144 : decode cX4_readNumber 144 = .ok (.iconst 0, 1) := by decide +kernel
theorem dX4_readNumber_145 : decode cX4_readNumber 145 = .ok (.ireturn, 1) := by decide +kernel
theorem dX4_readNumber_146 : decode cX4_readNumber 146 = .ok (.iload 4, 2) := by decide +kernel
theorem dX4_readNumber_148 : decode cX4_readNumber 148 = .ok (.ireturn, 1) := by decide +kernel
theorem dX4_fail_0 : decode cX4_fail 0 = .ok (.aload_n 0, 1) := by decide +kernel
theorem dX4_fail_1 : decode cX4_fail 1 = .ok (.getfield 29, 3) := by decide +kernel
theorem dX4_fail_4 : decode cX4_fail 4 = .ok (.ifCond .ne 13, 3) := by decide +kernel
theorem dX4_fail_7 : decode cX4_fail 7 = .ok (.aload_n 0, 1) := by decide +kernel
theorem dX4_fail_8 : decode cX4_fail 8 = .ok (.bipush 8, 2) := by decide +kernel
theorem dX4_fail_10 : decode cX4_fail 10 = .ok (.iload_n 1, 1) := by decide +kernel
theorem dX4_fail_11 : decode cX4_fail 11 = .ok (.imul, 1) := by decide +kernel
theorem dX4_fail_12 : decode cX4_fail 12 = .ok (.iload_n 2, 1) := by decide +kernel
theorem dX4_fail_13 : decode cX4_fail 13 = .ok (.iadd, 1) := by decide +kernel
theorem dX4_fail_14 : decode cX4_fail 14 = .ok (.putfield 29, 3) := by decide +kernel
theorem dX4_fail_17 : decode cX4_fail 17 = .ok (.return_, 1) := by decide +kernel
theorem dX4_skipBlanks_0 : decode cX4_skipBlanks 0 = .ok (.aload_n 0, 1) := by decide +kernel
theorem dX4_skipBlanks_1 : decode cX4_skipBlanks 1 = .ok (.getfield 25, 3) := by decide +kernel
theorem dX4_skipBlanks_4 : decode cX4_skipBlanks 4 = .ok (.aload_n 0, 1) := by decide +kernel
theorem dX4_skipBlanks_5 : decode cX4_skipBlanks 5 = .ok (.getfield 12, 3) := by decide +kernel
theorem dX4_skipBlanks_8 : decode cX4_skipBlanks 8 = .ok (.getfield 51, 3) := by decide +kernel
theorem dX4_skipBlanks_11 : decode cX4_skipBlanks 11 = .ok (.if_icmp .ge 33, 3) := by decide +kernel
theorem dX4_skipBlanks_14 : decode cX4_skipBlanks 14 = .ok (.aload_n 0, 1) := by decide +kernel
theorem dX4_skipBlanks_15 : decode cX4_skipBlanks 15 = .ok (.getfield 12, 3) := by decide +kernel
theorem dX4_skipBlanks_18 : decode cX4_skipBlanks 18 = .ok (.getfield 83, 3) := by decide +kernel
theorem dX4_skipBlanks_21 : decode cX4_skipBlanks 21 = .ok (.aload_n 0, 1) := by decide +kernel
theorem dX4_skipBlanks_22 : decode cX4_skipBlanks 22 = .ok (.getfield 25, 3) := by decide +kernel
theorem dX4_skipBlanks_25 : decode cX4_skipBlanks 25 = .ok (.baload, 1) := by decide +kernel
theorem dX4_skipBlanks_26 : decode cX4_skipBlanks 26 = .ok (.bipush 32, 2) := by decide +kernel
theorem dX4_skipBlanks_28 : decode cX4_skipBlanks 28 = .ok (.if_icmp .ne 16, 3) := by decide +kernel
theorem dX4_skipBlanks_31 : decode cX4_skipBlanks 31 = .ok (.aload_n 0, 1) := by decide +kernel
theorem dX4_skipBlanks_32 : decode cX4_skipBlanks 32 = .ok (.dup, 1) := by decide +kernel
theorem dX4_skipBlanks_33 : decode cX4_skipBlanks 33 = .ok (.getfield 25, 3) := by decide +kernel
theorem dX4_skipBlanks_36 : decode cX4_skipBlanks 36 = .ok (.iconst 1, 1) := by decide +kernel
theorem dX4_skipBlanks_37 : decode cX4_skipBlanks 37 = .ok (.iadd, 1) := by decide +kernel
theorem dX4_skipBlanks_38 : decode cX4_skipBlanks 38 = .ok (.putfield 25, 3) := by decide +kernel
theorem dX4_skipBlanks_41 : decode cX4_skipBlanks 41 = .ok (.goto (-41), 3) := by decide +kernel
theorem dX4_skipBlanks_44 : decode cX4_skipBlanks 44 = .ok (.return_, 1) := by decide +kernel
theorem dX4_skipLetters_0 : decode cX4_skipLetters 0 = .ok (.aload_n 0, 1) := by decide +kernel
theorem dX4_skipLetters_1 : decode cX4_skipLetters 1 = .ok (.getfield 25, 3) := by decide +kernel
theorem dX4_skipLetters_4 : decode cX4_skipLetters 4 = .ok (.aload_n 0, 1) := by decide +kernel
theorem dX4_skipLetters_5 : decode cX4_skipLetters 5 = .ok (.getfield 12, 3) := by decide +kernel
theorem dX4_skipLetters_8 : decode cX4_skipLetters 8 = .ok (.getfield 51, 3) := by decide +kernel
theorem dX4_skipLetters_11 : decode cX4_skipLetters 11 = .ok (.if_icmp .ge 50, 3) := by decide +kernel
theorem dX4_skipLetters_14 : decode cX4_skipLetters 14 = .ok (.aload_n 0, 1) := by decide +kernel
theorem dX4_skipLetters_15 : decode cX4_skipLetters 15 = .ok (.getfield 12, 3) := by decide +kernel
theorem dX4_skipLetters_18 : decode cX4_skipLetters 18 = .ok (.getfield 83, 3) := by decide +kernel
theorem dX4_skipLetters_21 : decode cX4_skipLetters 21 = .ok (.aload_n 0, 1) := by decide +kernel
theorem dX4_skipLetters_22 : decode cX4_skipLetters 22 = .ok (.getfield 25, 3) := by decide +kernel
theorem dX4_skipLetters_25 : decode cX4_skipLetters 25 = .ok (.baload, 1) := by decide +kernel
theorem dX4_skipLetters_26 : decode cX4_skipLetters 26 = .ok (.bipush 97, 2) := by decide +kernel
theorem dX4_skipLetters_28 : decode cX4_skipLetters 28 = .ok (.if_icmp .lt 33, 3) := by decide +kernel
theorem dX4_skipLetters_31 : decode cX4_skipLetters 31 = .ok (.aload_n 0, 1) := by decide +kernel
theorem dX4_skipLetters_32 : decode cX4_skipLetters 32 = .ok (.getfield 12, 3) := by decide +kernel
theorem dX4_skipLetters_35 : decode cX4_skipLetters 35 = .ok (.getfield 83, 3) := by decide +kernel
theorem dX4_skipLetters_38 : decode cX4_skipLetters 38 = .ok (.aload_n 0, 1) := by decide +kernel
theorem dX4_skipLetters_39 : decode cX4_skipLetters 39 = .ok (.getfield 25, 3) := by decide +kernel
theorem dX4_skipLetters_42 : decode cX4_skipLetters 42 = .ok (.baload, 1) := by decide +kernel
theorem dX4_skipLetters_43 : decode cX4_skipLetters 43 = .ok (.bipush 122, 2) := by decide +kernel
theorem dX4_skipLetters_45 : decode cX4_skipLetters 45 = .ok (.if_icmp .gt 16, 3) := by decide +kernel
theorem dX4_skipLetters_48 : decode cX4_skipLetters 48 = .ok (.aload_n 0, 1) := by decide +kernel
theorem dX4_skipLetters_49 : decode cX4_skipLetters 49 = .ok (.dup, 1) := by decide +kernel
theorem dX4_skipLetters_50 : decode cX4_skipLetters 50 = .ok (.getfield 25, 3) := by decide +kernel
theorem dX4_skipLetters_53 : decode cX4_skipLetters 53 = .ok (.iconst 1, 1) := by decide +kernel
theorem dX4_skipLetters_54 : decode cX4_skipLetters 54 = .ok (.iadd, 1) := by decide +kernel
theorem dX4_skipLetters_55 : decode cX4_skipLetters 55 = .ok (.putfield 25, 3) := by decide +kernel
theorem dX4_skipLetters_58 : decode cX4_skipLetters 58 = .ok (.goto (-58), 3) := by decide +kernel
theorem dX4_skipLetters_61 : decode cX4_skipLetters 61 = .ok (.return_, 1) := by decide +kernel
theorem dX4_isAtEnd_0 : decode cX4_isAtEnd 0 = .ok (.aload_n 0, 1) := by decide +kernel
theorem dX4_isAtEnd_1 : decode cX4_isAtEnd 1 = .ok (.invokevirtual 58, 3) := by decide +kernel
theorem dX4_isAtEnd_4 : decode cX4_isAtEnd 4 = .ok (.aload_n 0, 1) := by decide +kernel
theorem dX4_isAtEnd_5 : decode cX4_isAtEnd 5 = .ok (.getfield 25, 3) := by decide +kernel
theorem dX4_isAtEnd_8 : decode cX4_isAtEnd 8 = .ok (.aload_n 0, 1) := by decide +kernel
theorem dX4_isAtEnd_9 : decode cX4_isAtEnd 9 = .ok (.getfield 12, 3) := by decide +kernel
theorem dX4_isAtEnd_12 : decode cX4_isAtEnd 12 = .ok (.getfield 51, 3) := by decide +kernel
theorem dX4_isAtEnd_15 : decode cX4_isAtEnd 15 = .ok (.if_icmp .lt 7, 3) := by decide +kernel
theorem dX4_isAtEnd_18 : decode cX4_isAtEnd 18 = .ok (.iconst 1, 1) := by decide +kernel
theorem dX4_isAtEnd_19 : decode cX4_isAtEnd 19 = .ok (.goto 4, 3) := by decide +kernel
theorem dX4_isAtEnd_22 : decode cX4_isAtEnd 22 = .ok (.iconst 0, 1) := by decide +kernel
theorem dX4_isAtEnd_23 : decode cX4_isAtEnd 23 = .ok (.ireturn, 1) := by decide +kernel
theorem dX4_isWord_0 : decode cX4_isWord 0 = .ok (.aload_n 0, 1) := by decide +kernel
theorem dX4_isWord_1 : decode cX4_isWord 1 = .ok (.getfield 25, 3) := by decide +kernel
theorem dX4_isWord_4 : decode cX4_isWord 4 = .ok (.iload_n 1, 1) := by decide +kernel
theorem dX4_isWord_5 : decode cX4_isWord 5 = .ok (.isub, 1) := by decide +kernel
theorem dX4_isWord_6 : decode cX4_isWord 6 = .ok (.aload_n 2, 1) := by decide +kernel
theorem dX4_isWord_7 : decode cX4_isWord 7 = .ok (.invokevirtual 123, 3) := by decide +kernel
theorem dX4_isWord_10 : decode cX4_isWord 10 = .ok (.if_icmp .eq 5, 3) := by decide +kernel
theorem dX4_isWord_13 : decode cX4_isWord 13 = .ok (.iconst 0, 1) := by decide +kernel
theorem dX4_isWord_14 : decode cX4_isWord 14 = .ok (.ireturn, 1) := by decide +kernel
theorem dX4_isWord_15 : decode cX4_isWord 15 = .ok (.iconst 0, 1) := by decide +kernel
theorem dX4_isWord_16 : decode cX4_isWord 16 = .ok (.istore_n 3, 1) := by decide +kernel
theorem dX4_isWord_17 : decode cX4_isWord 17 = .ok (.iload_n 3, 1) := by decide +kernel
theorem dX4_isWord_18 : decode cX4_isWord 18 = .ok (.aload_n 2, 1) := by decide +kernel
theorem dX4_isWord_19 : decode cX4_isWord 19 = .ok (.invokevirtual 123, 3) := by decide +kernel
theorem dX4_isWord_22 : decode cX4_isWord 22 = .ok (.if_icmp .ge 30, 3) := by decide +kernel
theorem dX4_isWord_25 : decode cX4_isWord 25 = .ok (.aload_n 0, 1) := by decide +kernel
theorem dX4_isWord_26 : decode cX4_isWord 26 = .ok (.getfield 12, 3) := by decide +kernel
theorem dX4_isWord_29 : decode cX4_isWord 29 = .ok (.getfield 83, 3) := by decide +kernel
theorem dX4_isWord_32 : decode cX4_isWord 32 = .ok (.iload_n 1, 1) := by decide +kernel
theorem dX4_isWord_33 : decode cX4_isWord 33 = .ok (.iload_n 3, 1) := by decide +kernel
theorem dX4_isWord_34 : decode cX4_isWord 34 = .ok (.iadd, 1) := by decide +kernel
theorem dX4_isWord_35 : decode cX4_isWord 35 = .ok (.baload, 1) := by decide +kernel
theorem dX4_isWord_36 : decode cX4_isWord 36 = .ok (.aload_n 2, 1) := by decide +kernel
theorem dX4_isWord_37 : decode cX4_isWord 37 = .ok (.iload_n 3, 1) := by decide +kernel
theorem dX4_isWord_38 : decode cX4_isWord 38 = .ok (.invokevirtual 128, 3) := by decide +kernel
theorem dX4_isWord_41 : decode cX4_isWord 41 = .ok (.if_icmp .eq 5, 3) := by decide +kernel
theorem dX4_isWord_44 : decode cX4_isWord 44 = .ok (.iconst 0, 1) := by decide +kernel
theorem dX4_isWord_45 : decode cX4_isWord 45 = .ok (.ireturn, 1) := by decide +kernel
theorem dX4_isWord_46 : decode cX4_isWord 46 = .ok (.iinc 3 1, 3) := by decide +kernel
theorem dX4_isWord_49 : decode cX4_isWord 49 = .ok (.goto (-32), 3) := by decide +kernel
theorem dX4_isWord_52 : decode cX4_isWord 52 = .ok (.iconst 1, 1) := by decide +kernel
theorem dX4_isWord_53 : decode cX4_isWord 53 = .ok (.ireturn, 1) := by decide +kernel
theorem dX5_init_0 : decode cX5_init 0 = .ok (.aload_n 0, 1) := by decide +kernel
theorem dX5_init_1 : decode cX5_init 1 = .ok (.invokespecial 3, 3) := by decide +kernel
theorem dX5_init_4 : decode cX5_init 4 = .ok (.aload_n 0, 1) := by decide +kernel
theorem dX5_init_5 : decode cX5_init 5 = .ok (.bipush 6, 2) := by decide +kernel
theorem dX5_init_7 : decode cX5_init 7 = .ok (.newarray .int, 2) := by decide +kernel
theorem dX5_init_9 : decode cX5_init 9 = .ok (.putfield 9, 3) := by decide +kernel
theorem dX5_init_12 : decode cX5_init 12 = .ok (.aload_n 0, 1) := by decide +kernel
theorem dX5_init_13 : decode cX5_init 13 = .ok (.iconst 4, 1) := by decide +kernel
theorem dX5_init_14 : decode cX5_init 14 = .ok (.newarray .int, 2) := by decide +kernel
theorem dX5_init_16 : decode cX5_init 16 = .ok (.putfield 15, 3) := by decide +kernel
theorem dX5_init_19 : decode cX5_init 19 = .ok (.aload_n 0, 1) := by decide +kernel
theorem dX5_init_20 : decode cX5_init 20 = .ok (.bipush 96, 2) := by decide +kernel
theorem dX5_init_22 : decode cX5_init 22 = .ok (.newarray .int, 2) := by decide +kernel
theorem dX5_init_24 : decode cX5_init 24 = .ok (.putfield 18, 3) := by decide +kernel
theorem dX5_init_27 : decode cX5_init 27 = .ok (.return_, 1) := by decide +kernel
theorem dX5_clear_0 : decode cX5_clear 0 = .ok (.aload_n 0, 1) := by decide +kernel
theorem dX5_clear_1 : decode cX5_clear 1 = .ok (.getfield 9, 3) := by decide +kernel
theorem dX5_clear_4 : decode cX5_clear 4 = .ok (.iconst 0, 1) := by decide +kernel
theorem dX5_clear_5 : decode cX5_clear 5 = .ok (.invokestatic 21, 3) := by decide +kernel
theorem dX5_clear_8 : decode cX5_clear 8 = .ok (.aload_n 0, 1) := by decide +kernel
theorem dX5_clear_9 : decode cX5_clear 9 = .ok (.getfield 15, 3) := by decide +kernel
theorem dX5_clear_12 : decode cX5_clear 12 = .ok (.iconst 0, 1) := by decide +kernel
theorem dX5_clear_13 : decode cX5_clear 13 = .ok (.invokestatic 21, 3) := by decide +kernel
theorem dX5_clear_16 : decode cX5_clear 16 = .ok (.aload_n 0, 1) := by decide +kernel
theorem dX5_clear_17 : decode cX5_clear 17 = .ok (.getfield 18, 3) := by decide +kernel
theorem dX5_clear_20 : decode cX5_clear 20 = .ok (.iconst 0, 1) := by decide +kernel
theorem dX5_clear_21 : decode cX5_clear 21 = .ok (.invokestatic 21, 3) := by decide +kernel
theorem dX5_clear_24 : decode cX5_clear 24 = .ok (.aload_n 0, 1) := by decide +kernel
theorem dX5_clear_25 : decode cX5_clear 25 = .ok (.iconst 0, 1) := by decide +kernel
theorem dX5_clear_26 : decode cX5_clear 26 = .ok (.putfield 27, 3) := by decide +kernel
theorem dX5_clear_29 : decode cX5_clear 29 = .ok (.aload_n 0, 1) := by decide +kernel
theorem dX5_clear_30 : decode cX5_clear 30 = .ok (.iconst 0, 1) := by decide +kernel
theorem dX5_clear_31 : decode cX5_clear 31 = .ok (.putfield 31, 3) := by decide +kernel
theorem dX5_clear_34 : decode cX5_clear 34 = .ok (.return_, 1) := by decide +kernel
theorem dX5_copyFrom_0 : decode cX5_copyFrom 0 = .ok (.aload_n 1, 1) := by decide +kernel
theorem dX5_copyFrom_1 : decode cX5_copyFrom 1 = .ok (.getfield 9, 3) := by decide +kernel
theorem dX5_copyFrom_4 : decode cX5_copyFrom 4 = .ok (.iconst 0, 1) := by decide +kernel
theorem dX5_copyFrom_5 : decode cX5_copyFrom 5 = .ok (.aload_n 0, 1) := by decide +kernel
theorem dX5_copyFrom_6 : decode cX5_copyFrom 6 = .ok (.getfield 9, 3) := by decide +kernel
theorem dX5_copyFrom_9 : decode cX5_copyFrom 9 = .ok (.iconst 0, 1) := by decide +kernel
theorem dX5_copyFrom_10 : decode cX5_copyFrom 10 = .ok (.aload_n 0, 1) := by decide +kernel
theorem dX5_copyFrom_11 : decode cX5_copyFrom 11 = .ok (.getfield 9, 3) := by decide +kernel
theorem dX5_copyFrom_14 : decode cX5_copyFrom 14 = .ok (.arraylength, 1) := by decide +kernel
theorem dX5_copyFrom_15 : decode cX5_copyFrom 15 = .ok (.invokestatic 34, 3) := by decide +kernel
theorem dX5_copyFrom_18 : decode cX5_copyFrom 18 = .ok (.aload_n 1, 1) := by decide +kernel
theorem dX5_copyFrom_19 : decode cX5_copyFrom 19 = .ok (.getfield 15, 3) := by decide +kernel
theorem dX5_copyFrom_22 : decode cX5_copyFrom 22 = .ok (.iconst 0, 1) := by decide +kernel
theorem dX5_copyFrom_23 : decode cX5_copyFrom 23 = .ok (.aload_n 0, 1) := by decide +kernel
theorem dX5_copyFrom_24 : decode cX5_copyFrom 24 = .ok (.getfield 15, 3) := by decide +kernel
theorem dX5_copyFrom_27 : decode cX5_copyFrom 27 = .ok (.iconst 0, 1) := by decide +kernel
theorem dX5_copyFrom_28 : decode cX5_copyFrom 28 = .ok (.aload_n 0, 1) := by decide +kernel
theorem dX5_copyFrom_29 : decode cX5_copyFrom 29 = .ok (.getfield 15, 3) := by decide +kernel
theorem dX5_copyFrom_32 : decode cX5_copyFrom 32 = .ok (.arraylength, 1) := by decide +kernel
theorem dX5_copyFrom_33 : decode cX5_copyFrom 33 = .ok (.invokestatic 34, 3) := by decide +kernel
theorem dX5_copyFrom_36 : decode cX5_copyFrom 36 = .ok (.aload_n 1, 1) := by decide +kernel
theorem dX5_copyFrom_37 : decode cX5_copyFrom 37 = .ok (.getfield 18, 3) := by decide +kernel
theorem dX5_copyFrom_40 : decode cX5_copyFrom 40 = .ok (.iconst 0, 1) := by decide +kernel
theorem dX5_copyFrom_41 : decode cX5_copyFrom 41 = .ok (.aload_n 0, 1) := by decide +kernel
theorem dX5_copyFrom_42 : decode cX5_copyFrom 42 = .ok (.getfield 18, 3) := by decide +kernel
theorem dX5_copyFrom_45 : decode cX5_copyFrom 45 = .ok (.iconst 0, 1) := by decide +kernel
theorem dX5_copyFrom_46 : decode cX5_copyFrom 46 = .ok (.aload_n 0, 1) := by decide +kernel
theorem dX5_copyFrom_47 : decode cX5_copyFrom 47 = .ok (.getfield 18, 3) := by decide +kernel
theorem dX5_copyFrom_50 : decode cX5_copyFrom 50 = .ok (.arraylength, 1) := by decide +kernel
theorem dX5_copyFrom_51 : decode cX5_copyFrom 51 = .ok (.invokestatic 34, 3) := by decide +kernel
theorem dX5_copyFrom_54 : decode cX5_copyFrom 54 = .ok (.aload_n 0, 1) := by decide +kernel
theorem dX5_copyFrom_55 : decode cX5_copyFrom 55 = .ok (.aload_n 1, 1) := by decide +kernel
theorem dX5_copyFrom_56 : decode cX5_copyFrom 56 = .ok (.getfield 27, 3) := by decide +kernel
theorem dX5_copyFrom_59 : decode cX5_copyFrom 59 = .ok (.putfield 27, 3) := by decide +kernel
theorem dX5_copyFrom_62 : decode cX5_copyFrom 62 = .ok (.aload_n 0, 1) := by decide +kernel
theorem dX5_copyFrom_63 : decode cX5_copyFrom 63 = .ok (.aload_n 1, 1) := by decide +kernel
theorem dX5_copyFrom_64 : decode cX5_copyFrom 64 = .ok (.getfield 31, 3) := by decide +kernel
theorem dX5_copyFrom_67 : decode cX5_copyFrom 67 = .ok (.putfield 31, 3) := by decide +kernel
theorem dX5_copyFrom_70 : decode cX5_copyFrom 70 = .ok (.return_, 1) := by decide +kernel
theorem dX5_inYear_0 : decode cX5_inYear 0 = .ok (.aload_n 0, 1) := by decide +kernel
theorem dX5_inYear_1 : decode cX5_inYear 1 = .ok (.getfield 18, 3) := by decide +kernel
theorem dX5_inYear_4 : decode cX5_inYear 4 = .ok (.iload_n 1, 1) := by decide +kernel
theorem dX5_inYear_5 : decode cX5_inYear 5 = .ok (.iconst 3, 1) := by decide +kernel
theorem dX5_inYear_6 : decode cX5_inYear 6 = .ok (.imul, 1) := by decide +kernel
theorem dX5_inYear_7 : decode cX5_inYear 7 = .ok (.iload_n 2, 1) := by decide +kernel
theorem dX5_inYear_8 : decode cX5_inYear 8 = .ok (.iadd, 1) := by decide +kernel
theorem dX5_inYear_9 : decode cX5_inYear 9 = .ok (.iaload, 1) := by decide +kernel
theorem dX5_inYear_10 : decode cX5_inYear 10 = .ok (.ireturn, 1) := by decide +kernel
theorem dX5_putYear_0 : decode cX5_putYear 0 = .ok (.aload_n 0, 1) := by decide +kernel
theorem dX5_putYear_1 : decode cX5_putYear 1 = .ok (.getfield 18, 3) := by decide +kernel
theorem dX5_putYear_4 : decode cX5_putYear 4 = .ok (.iload_n 1, 1) := by decide +kernel
theorem dX5_putYear_5 : decode cX5_putYear 5 = .ok (.iconst 3, 1) := by decide +kernel
theorem dX5_putYear_6 : decode cX5_putYear 6 = .ok (.imul, 1) := by decide +kernel
theorem dX5_putYear_7 : decode cX5_putYear 7 = .ok (.iload_n 2, 1) := by decide +kernel
theorem dX5_putYear_8 : decode cX5_putYear 8 = .ok (.iadd, 1) := by decide +kernel
theorem dX5_putYear_9 : decode cX5_putYear 9 = .ok (.iload_n 3, 1) := by decide +kernel
theorem dX5_putYear_10 : decode cX5_putYear 10 = .ok (.iastore, 1) := by decide +kernel
theorem dX5_putYear_11 : decode cX5_putYear 11 = .ok (.return_, 1) := by decide +kernel
theorem dX5_inOldYears_0 : decode cX5_inOldYears 0 = .ok (.aload_n 0, 1) := by decide +kernel
theorem dX5_inOldYears_1 : decode cX5_inOldYears 1 = .ok (.iload_n 1, 1) := by decide +kernel
theorem dX5_inOldYears_2 : decode cX5_inOldYears 2 = .ok (.iconst 0, 1) := by decide +kernel
theorem dX5_inOldYears_3 : decode cX5_inOldYears 3 = .ok (.invokevirtual 40, 3) := by decide +kernel
theorem dX5_inOldYears_6 : decode cX5_inOldYears 6 = .ok (.aload_n 0, 1) := by decide +kernel
theorem dX5_inOldYears_7 : decode cX5_inOldYears 7 = .ok (.iload_n 1, 1) := by decide +kernel
theorem dX5_inOldYears_8 : decode cX5_inOldYears 8 = .ok (.iconst 1, 1) := by decide +kernel
theorem dX5_inOldYears_9 : decode cX5_inOldYears 9 = .ok (.invokevirtual 40, 3) := by decide +kernel
theorem dX5_inOldYears_12 : decode cX5_inOldYears 12 = .ok (.iadd, 1) := by decide +kernel
theorem dX5_inOldYears_13 : decode cX5_inOldYears 13 = .ok (.aload_n 0, 1) := by decide +kernel
theorem dX5_inOldYears_14 : decode cX5_inOldYears 14 = .ok (.iload_n 1, 1) := by decide +kernel
theorem dX5_inOldYears_15 : decode cX5_inOldYears 15 = .ok (.iconst 2, 1) := by decide +kernel
theorem dX5_inOldYears_16 : decode cX5_inOldYears 16 = .ok (.invokevirtual 40, 3) := by decide +kernel
theorem dX5_inOldYears_19 : decode cX5_inOldYears 19 = .ok (.iadd, 1) := by decide +kernel
theorem dX5_inOldYears_20 : decode cX5_inOldYears 20 = .ok (.ireturn, 1) := by decide +kernel
theorem dX5_yearsWithSome_0 : decode cX5_yearsWithSome 0 = .ok (.aload_n 0, 1) := by decide +kernel
theorem dX5_yearsWithSome_1 : decode cX5_yearsWithSome 1 = .ok (.iload_n 1, 1) := by decide +kernel
theorem dX5_yearsWithSome_2 : decode cX5_yearsWithSome 2 = .ok (.iconst 0, 1) := by decide +kernel
theorem dX5_yearsWithSome_3 : decode cX5_yearsWithSome 3 = .ok (.invokevirtual 40, 3) := by decide +kernel
theorem dX5_yearsWithSome_6 : decode cX5_yearsWithSome 6 = .ok (.ifCond .le 7, 3) := by decide +kernel
theorem dX5_yearsWithSome_9 : decode cX5_yearsWithSome 9 = .ok (.iconst 1, 1) := by decide +kernel
theorem dX5_yearsWithSome_10 : decode cX5_yearsWithSome 10 = .ok (.goto 4, 3) := by decide +kernel
theorem dX5_yearsWithSome_13 : decode cX5_yearsWithSome 13 = .ok (.iconst 0, 1) := by decide +kernel
theorem dX5_yearsWithSome_14 : decode cX5_yearsWithSome 14 = .ok (.aload_n 0, 1) := by decide +kernel
theorem dX5_yearsWithSome_15 : decode cX5_yearsWithSome 15 = .ok (.iload_n 1, 1) := by decide +kernel
theorem dX5_yearsWithSome_16 : decode cX5_yearsWithSome 16 = .ok (.iconst 1, 1) := by decide +kernel
theorem dX5_yearsWithSome_17 : decode cX5_yearsWithSome 17 = .ok (.invokevirtual 40, 3) := by decide +kernel
theorem dX5_yearsWithSome_20 : decode cX5_yearsWithSome 20 = .ok (.ifCond .le 7, 3) := by decide +kernel
theorem dX5_yearsWithSome_23 : decode cX5_yearsWithSome 23 = .ok (.iconst 1, 1) := by decide +kernel
theorem dX5_yearsWithSome_24 : decode cX5_yearsWithSome 24 = .ok (.goto 4, 3) := by decide +kernel
theorem dX5_yearsWithSome_27 : decode cX5_yearsWithSome 27 = .ok (.iconst 0, 1) := by decide +kernel
theorem dX5_yearsWithSome_28 : decode cX5_yearsWithSome 28 = .ok (.iadd, 1) := by decide +kernel
theorem dX5_yearsWithSome_29 : decode cX5_yearsWithSome 29 = .ok (.aload_n 0, 1) := by decide +kernel
theorem dX5_yearsWithSome_30 : decode cX5_yearsWithSome 30 = .ok (.iload_n 1, 1) := by decide +kernel
theorem dX5_yearsWithSome_31 : decode cX5_yearsWithSome 31 = .ok (.iconst 2, 1) := by decide +kernel
theorem dX5_yearsWithSome_32 : decode cX5_yearsWithSome 32 = .ok (.invokevirtual 40, 3) := by decide +kernel
theorem dX5_yearsWithSome_35 : decode cX5_yearsWithSome 35 = .ok (.ifCond .le 7, 3) := by decide +kernel
theorem dX5_yearsWithSome_38 : decode cX5_yearsWithSome 38 = .ok (.iconst 1, 1) := by decide +kernel
theorem dX5_yearsWithSome_39 : decode cX5_yearsWithSome 39 = .ok (.goto 4, 3) := by decide +kernel
theorem dX5_yearsWithSome_42 : decode cX5_yearsWithSome 42 = .ok (.iconst 0, 1) := by decide +kernel
theorem dX5_yearsWithSome_43 : decode cX5_yearsWithSome 43 = .ok (.iadd, 1) := by decide +kernel
theorem dX5_yearsWithSome_44 : decode cX5_yearsWithSome 44 = .ok (.ireturn, 1) := by decide +kernel
theorem dX5_growOlder_0 : decode cX5_growOlder 0 = .ok (.aload_n 0, 1) := by decide +kernel
theorem dX5_growOlder_1 : decode cX5_growOlder 1 = .ok (.iload_n 1, 1) := by decide +kernel
theorem dX5_growOlder_2 : decode cX5_growOlder 2 = .ok (.iconst 2, 1) := by decide +kernel
theorem dX5_growOlder_3 : decode cX5_growOlder 3 = .ok (.aload_n 0, 1) := by decide +kernel
theorem dX5_growOlder_4 : decode cX5_growOlder 4 = .ok (.iload_n 1, 1) := by decide +kernel
theorem dX5_growOlder_5 : decode cX5_growOlder 5 = .ok (.iconst 1, 1) := by decide +kernel
theorem dX5_growOlder_6 : decode cX5_growOlder 6 = .ok (.invokevirtual 40, 3) := by decide +kernel
theorem dX5_growOlder_9 : decode cX5_growOlder 9 = .ok (.invokevirtual 44, 3) := by decide +kernel
theorem dX5_growOlder_12 : decode cX5_growOlder 12 = .ok (.aload_n 0, 1) := by decide +kernel
theorem dX5_growOlder_13 : decode cX5_growOlder 13 = .ok (.iload_n 1, 1) := by decide +kernel
theorem dX5_growOlder_14 : decode cX5_growOlder 14 = .ok (.iconst 1, 1) := by decide +kernel
theorem dX5_growOlder_15 : decode cX5_growOlder 15 = .ok (.aload_n 0, 1) := by decide +kernel
theorem dX5_growOlder_16 : decode cX5_growOlder 16 = .ok (.iload_n 1, 1) := by decide +kernel
theorem dX5_growOlder_17 : decode cX5_growOlder 17 = .ok (.iconst 0, 1) := by decide +kernel
theorem dX5_growOlder_18 : decode cX5_growOlder 18 = .ok (.invokevirtual 40, 3) := by decide +kernel
theorem dX5_growOlder_21 : decode cX5_growOlder 21 = .ok (.invokevirtual 44, 3) := by decide +kernel
theorem dX5_growOlder_24 : decode cX5_growOlder 24 = .ok (.aload_n 0, 1) := by decide +kernel
theorem dX5_growOlder_25 : decode cX5_growOlder 25 = .ok (.iload_n 1, 1) := by decide +kernel
theorem dX5_growOlder_26 : decode cX5_growOlder 26 = .ok (.iconst 0, 1) := by decide +kernel
theorem dX5_growOlder_27 : decode cX5_growOlder 27 = .ok (.iload_n 2, 1) := by decide +kernel
theorem dX5_growOlder_28 : decode cX5_growOlder 28 = .ok (.invokevirtual 44, 3) := by decide +kernel
theorem dX5_growOlder_31 : decode cX5_growOlder 31 = .ok (.return_, 1) := by decide +kernel
theorem dX6_init_0 : decode cX6_init 0 = .ok (.aload_n 0, 1) := by decide +kernel
theorem dX6_init_1 : decode cX6_init 1 = .ok (.invokespecial 3, 3) := by decide +kernel
theorem dX6_init_4 : decode cX6_init 4 = .ok (.return_, 1) := by decide +kernel
theorem dX6_spell_0 : decode cX6_spell 0 = .ok (.aload_n 0, 1) := by decide +kernel
theorem dX6_spell_1 : decode cX6_spell 1 = .ok (.iconst 0, 1) := by decide +kernel
theorem dX6_spell_2 : decode cX6_spell 2 = .ok (.putfield 9, 3) := by decide +kernel
theorem dX6_spell_5 : decode cX6_spell 5 = .ok (.aload_n 0, 1) := by decide +kernel
theorem dX6_spell_6 : decode cX6_spell 6 = .ok (.iconst (-1), 1) := by decide +kernel
theorem dX6_spell_7 : decode cX6_spell 7 = .ok (.putfield 15, 3) := by decide +kernel
theorem dX6_spell_10 : decode cX6_spell 10 = .ok (.aload_n 0, 1) := by decide +kernel
theorem dX6_spell_11 : decode cX6_spell 11 = .ok (.iload_n 2, 1) := by decide +kernel
theorem dX6_spell_12 : decode cX6_spell 12 = .ok (.putfield 18, 3) := by decide +kernel
theorem dX6_spell_15 : decode cX6_spell 15 = .ok (.aload_n 1, 1) := by decide +kernel
theorem dX6_spell_16 : decode cX6_spell 16 = .ok (.getfield 21, 3) := by decide +kernel
theorem dX6_spell_19 : decode cX6_spell 19 = .ok (.ifCond .ne 4, 3) := by decide +kernel
theorem dX6_spell_22 : decode cX6_spell 22 = .ok (.return_, 1) := by decide +kernel
theorem dX6_spell_23 : decode cX6_spell 23 = .ok (.aload_n 0, 1) := by decide +kernel
theorem dX6_spell_24 : decode cX6_spell 24 = .ok (.ldc 26, 2) := by decide +kernel
theorem dX6_spell_26 : decode cX6_spell 26 = .ok (.invokevirtual 28, 3) := by decide +kernel
theorem dX6_spell_29 : decode cX6_spell 29 = .ok (.iconst 0, 1) := by decide +kernel
theorem dX6_spell_30 : decode cX6_spell 30 = .ok (.istore_n 3, 1) := by decide +kernel
theorem dX6_spell_31 : decode cX6_spell 31 = .ok (.iload_n 3, 1) := by decide +kernel
theorem dX6_spell_32 : decode cX6_spell 32 = .ok (.iconst 5, 1) := by decide +kernel
theorem dX6_spell_33 : decode cX6_spell 33 = .ok (.if_icmp .gt 19, 3) := by decide +kernel
theorem dX6_spell_36 : decode cX6_spell 36 = .ok (.aload_n 0, 1) := by decide +kernel
theorem dX6_spell_37 : decode cX6_spell 37 = .ok (.aload_n 1, 1) := by decide +kernel
theorem dX6_spell_38 : decode cX6_spell 38 = .ok (.getfield 32, 3) := by decide +kernel
theorem dX6_spell_41 : decode cX6_spell 41 = .ok (.iload_n 3, 1) := by decide +kernel
theorem dX6_spell_42 : decode cX6_spell 42 = .ok (.iaload, 1) := by decide +kernel
theorem dX6_spell_43 : decode cX6_spell 43 = .ok (.invokevirtual 36, 3) := by decide +kernel
theorem dX6_spell_46 : decode cX6_spell 46 = .ok (.iinc 3 1, 3) := by decide +kernel
theorem dX6_spell_49 : decode cX6_spell 49 = .ok (.goto (-18), 3) := by decide +kernel
theorem dX6_spell_52 : decode cX6_spell 52 = .ok (.iconst 0, 1) := by decide +kernel
theorem dX6_spell_53 : decode cX6_spell 53 = .ok (.istore_n 3, 1) := by decide +kernel
theorem dX6_spell_54 : decode cX6_spell 54 = .ok (.iload_n 3, 1) := by decide +kernel
theorem dX6_spell_55 : decode cX6_spell 55 = .ok (.aload_n 1, 1) := by decide +kernel
theorem dX6_spell_56 : decode cX6_spell 56 = .ok (.getfield 21, 3) := by decide +kernel
theorem dX6_spell_59 : decode cX6_spell 59 = .ok (.if_icmp .ge 25, 3) := by decide +kernel
theorem dX6_spell_62 : decode cX6_spell 62 = .ok (.aload_n 0, 1) := by decide +kernel
theorem dX6_spell_63 : decode cX6_spell 63 = .ok (.ldc 40, 2) := by decide +kernel
theorem dX6_spell_65 : decode cX6_spell 65 = .ok (.invokevirtual 28, 3) := by decide +kernel
theorem dX6_spell_68 : decode cX6_spell 68 = .ok (.aload_n 0, 1) := by decide +kernel
theorem dX6_spell_69 : decode cX6_spell 69 = .ok (.aload_n 1, 1) := by decide +kernel
theorem dX6_spell_70 : decode cX6_spell 70 = .ok (.getfield 42, 3) := by decide +kernel
theorem dX6_spell_73 : decode cX6_spell 73 = .ok (.iload_n 3, 1) := by decide +kernel
theorem dX6_spell_74 : decode cX6_spell 74 = .ok (.iaload, 1) := by decide +kernel
theorem dX6_spell_75 : decode cX6_spell 75 = .ok (.invokevirtual 36, 3) := by decide +kernel
theorem dX6_spell_78 : decode cX6_spell 78 = .ok (.iinc 3 1, 3) := by decide +kernel
theorem dX6_spell_81 : decode cX6_spell 81 = .ok (.goto (-27), 3) := by decide +kernel
theorem dX6_spell_84 : decode cX6_spell 84 = .ok (.iconst 0, 1) := by decide +kernel
theorem dX6_spell_85 : decode cX6_spell 85 = .ok (.istore_n 3, 1) := by decide +kernel
theorem dX6_spell_86 : decode cX6_spell 86 = .ok (.iload_n 3, 1) := by decide +kernel
theorem dX6_spell_87 : decode cX6_spell 87 = .ok (.aload_n 1, 1) := by decide +kernel
theorem dX6_spell_88 : decode cX6_spell 88 = .ok (.getfield 45, 3) := by decide +kernel
theorem dX6_spell_91 : decode cX6_spell 91 = .ok (.if_icmp .ge 15, 3) := by decide +kernel
theorem dX6_spell_94 : decode cX6_spell 94 = .ok (.aload_n 0, 1) := by decide +kernel
theorem dX6_spell_95 : decode cX6_spell 95 = .ok (.ldc 48, 2) := by decide +kernel
theorem dX6_spell_97 : decode cX6_spell 97 = .ok (.invokevirtual 28, 3) := by decide +kernel
theorem dX6_spell_100 : decode cX6_spell 100 = .ok (.iinc 3 1, 3) := by decide +kernel
theorem dX6_spell_103 : decode cX6_spell 103 = .ok (.goto (-17), 3) := by decide +kernel
theorem dX6_spell_106 : decode cX6_spell 106 = .ok (.iconst 0, 1) := by decide +kernel
theorem dX6_spell_107 : decode cX6_spell 107 = .ok (.istore_n 3, 1) := by decide +kernel
theorem dX6_spell_108 : decode cX6_spell 108 = .ok (.iload_n 3, 1) := by decide +kernel
theorem dX6_spell_109 : decode cX6_spell 109 = .ok (.aload_n 1, 1) := by decide +kernel
theorem dX6_spell_110 : decode cX6_spell 110 = .ok (.getfield 45, 3) := by decide +kernel
theorem dX6_spell_113 : decode cX6_spell 113 = .ok (.if_icmp .ge 35, 3) := by decide +kernel
theorem dX6_spell_116 : decode cX6_spell 116 = .ok (.iconst 0, 1) := by decide +kernel
theorem dX6_spell_117 : decode cX6_spell 117 = .ok (.istore 4, 2) := by decide +kernel
theorem dX6_spell_119 : decode cX6_spell 119 = .ok (.iload 4, 2) := by decide +kernel
theorem dX6_spell_121 : decode cX6_spell 121 = .ok (.aload_n 1, 1) := by decide +kernel
theorem dX6_spell_122 : decode cX6_spell 122 = .ok (.getfield 21, 3) := by decide +kernel
theorem dX6_spell_125 : decode cX6_spell 125 = .ok (.if_icmp .ge 17, 3) := by decide +kernel
theorem dX6_spell_128 : decode cX6_spell 128 = .ok (.aload_n 0, 1) := by decide +kernel
theorem dX6_spell_129 : decode cX6_spell 129 = .ok (.aload_n 1, 1) := by decide +kernel
theorem dX6_spell_130 : decode cX6_spell 130 = .ok (.iload_n 3, 1) := by decide +kernel
theorem dX6_spell_131 : decode cX6_spell 131 = .ok (.iload 4, 2) := by decide +kernel
theorem dX6_spell_133 : decode cX6_spell 133 = .ok (.invokevirtual 50, 3) := by decide +kernel
theorem dX6_spell_136 : decode cX6_spell 136 = .ok (.iinc 4 1, 3) := by decide +kernel
theorem dX6_spell_139 : decode cX6_spell 139 = .ok (.goto (-20), 3) := by decide +kernel
theorem dX6_spell_142 : decode cX6_spell 142 = .ok (.iinc 3 1, 3) := by decide +kernel
theorem dX6_spell_145 : decode cX6_spell 145 = .ok (.goto (-37), 3) := by decide +kernel
theorem dX6_spell_148 : decode cX6_spell 148 = .ok (.return_, 1) := by decide +kernel
theorem dX6_putPast_0 : decode cX6_putPast 0 = .ok (.iload_n 2, 1) := by decide +kernel
theorem dX6_putPast_1 : decode cX6_putPast 1 = .ok (.iload_n 3, 1) := by decide +kernel
theorem dX6_putPast_2 : decode cX6_putPast 2 = .ok (.invokestatic 54, 3) := by decide +kernel
theorem dX6_putPast_5 : decode cX6_putPast 5 = .ok (.istore 4, 2) := by decide +kernel
theorem dX6_putPast_7 : decode cX6_putPast 7 = .ok (.aload_n 1, 1) := by decide +kernel
theorem dX6_putPast_8 : decode cX6_putPast 8 = .ok (.iload 4, 2) := by decide +kernel
theorem dX6_putPast_10 : decode cX6_putPast 10 = .ok (.invokevirtual 58, 3) := by decide +kernel
theorem dX6_putPast_13 : decode cX6_putPast 13 = .ok (.ifCond .ne 4, 3) := by decide +kernel
theorem dX6_putPast_16 : decode cX6_putPast 16 = .ok (.return_, 1) := by decide +kernel
theorem dX6_putPast_17 : decode cX6_putPast 17 = .ok (.aload_n 0, 1) := by decide +kernel
theorem dX6_putPast_18 : decode cX6_putPast 18 = .ok (.ldc 62, 2) := by decide +kernel
theorem dX6_putPast_20 : decode cX6_putPast 20 = .ok (.invokevirtual 28, 3) := by decide +kernel
theorem dX6_putPast_23 : decode cX6_putPast 23 = .ok (.aload_n 0, 1) := by decide +kernel
theorem dX6_putPast_24 : decode cX6_putPast 24 = .ok (.iload_n 2, 1) := by decide +kernel
theorem dX6_putPast_25 : decode cX6_putPast 25 = .ok (.invokevirtual 36, 3) := by decide +kernel
theorem dX6_putPast_28 : decode cX6_putPast 28 = .ok (.aload_n 0, 1) := by decide +kernel
theorem dX6_putPast_29 : decode cX6_putPast 29 = .ok (.iload_n 3, 1) := by decide +kernel
theorem dX6_putPast_30 : decode cX6_putPast 30 = .ok (.invokevirtual 36, 3) := by decide +kernel
theorem dX6_putPast_33 : decode cX6_putPast 33 = .ok (.iconst 2, 1) := by decide +kernel
theorem dX6_putPast_34 : decode cX6_putPast 34 = .ok (.istore 5, 2) := by decide +kernel
theorem dX6_putPast_36 : decode cX6_putPast 36 = .ok (.iload 5, 2) := by decide +kernel
theorem dX6_putPast_38 : decode cX6_putPast 38 = .ok (.ifCond .lt 21, 3) := by decide +kernel
theorem dX6_putPast_41 : decode cX6_putPast 41 = .ok (.aload_n 0, 1) := by decide +kernel
theorem dX6_putPast_42 : decode cX6_putPast 42 = .ok (.aload_n 1, 1) := by decide +kernel
theorem dX6_putPast_43 : decode cX6_putPast 43 = .ok (.iload 4, 2) := by decide +kernel
theorem dX6_putPast_45 : decode cX6_putPast 45 = .ok (.iload 5, 2) := by decide +kernel
theorem dX6_putPast_47 : decode cX6_putPast 47 = .ok (.invokevirtual 64, 3) := by decide +kernel
theorem dX6_putPast_50 : decode cX6_putPast 50 = .ok (.invokevirtual 36, 3) := by decide +kernel
theorem dX6_putPast_53 : decode cX6_putPast 53 = .ok (.iinc 5 (-1), 3) := by decide +kernel
theorem dX6_putPast_56 : decode cX6_putPast 56 = .ok (.goto (-20), 3) := by decide +kernel
theorem dX6_putPast_59 : decode cX6_putPast 59 = .ok (.return_, 1) := by decide +kernel
theorem dX6_putByte_0 : decode cX6_putByte 0 = .ok (.aload_n 0, 1) := by decide +kernel
theorem dX6_putByte_1 : decode cX6_putByte 1 = .ok (.getfield 9, 3) := by decide +kernel
theorem dX6_putByte_4 : decode cX6_putByte 4 = .ok (.aload_n 0, 1) := by decide +kernel
theorem dX6_putByte_5 : decode cX6_putByte 5 = .ok (.getfield 18, 3) := by decide +kernel
theorem dX6_putByte_8 : decode cX6_putByte 8 = .ok (.if_icmp .ne 8, 3) := by decide +kernel
theorem dX6_putByte_11 : decode cX6_putByte 11 = .ok (.aload_n 0, 1) := by decide +kernel
theorem dX6_putByte_12 : decode cX6_putByte 12 = .ok (.iload_n 1, 1) := by decide +kernel
theorem dX6_putByte_13 : decode cX6_putByte 13 = .ok (.putfield 15, 3) := by decide +kernel
theorem dX6_putByte_16 : decode cX6_putByte 16 = .ok (.aload_n 0, 1) := by decide +kernel
theorem dX6_putByte_17 : decode cX6_putByte 17 = .ok (.dup, 1) := by decide +kernel
theorem dX6_putByte_18 : decode cX6_putByte 18 = .ok (.getfield 9, 3) := by decide +kernel
theorem dX6_putByte_21 : decode cX6_putByte 21 = .ok (.iconst 1, 1) := by decide +kernel
theorem dX6_putByte_22 : decode cX6_putByte 22 = .ok (.iadd, 1) := by decide +kernel
theorem dX6_putByte_23 : decode cX6_putByte 23 = .ok (.putfield 9, 3) := by decide +kernel
theorem dX6_putByte_26 : decode cX6_putByte 26 = .ok (.return_, 1) := by decide +kernel
theorem dX6_putWord_0 : decode cX6_putWord 0 = .ok (.iconst 0, 1) := by decide +kernel
theorem dX6_putWord_1 : decode cX6_putWord 1 = .ok (.istore_n 2, 1) := by decide +kernel
theorem dX6_putWord_2 : decode cX6_putWord 2 = .ok (.iload_n 2, 1) := by decide +kernel
theorem dX6_putWord_3 : decode cX6_putWord 3 = .ok (.aload_n 1, 1) := by decide +kernel
theorem dX6_putWord_4 : decode cX6_putWord 4 = .ok (.invokevirtual 67, 3) := by decide +kernel
theorem dX6_putWord_7 : decode cX6_putWord 7 = .ok (.if_icmp .ge 18, 3) := by decide +kernel
theorem dX6_putWord_10 : decode cX6_putWord 10 = .ok (.aload_n 0, 1) := by decide +kernel
theorem dX6_putWord_11 : decode cX6_putWord 11 = .ok (.aload_n 1, 1) := by decide +kernel
theorem dX6_putWord_12 : decode cX6_putWord 12 = .ok (.iload_n 2, 1) := by decide +kernel
theorem dX6_putWord_13 : decode cX6_putWord 13 = .ok (.invokevirtual 72, 3) := by decide +kernel
theorem dX6_putWord_16 : decode cX6_putWord 16 = .ok (.invokevirtual 76, 3) := by decide +kernel
theorem dX6_putWord_19 : decode cX6_putWord 19 = .ok (.iinc 2 1, 3) := by decide +kernel
theorem dX6_putWord_22 : decode cX6_putWord 22 = .ok (.goto (-20), 3) := by decide +kernel
theorem dX6_putWord_25 : decode cX6_putWord 25 = .ok (.return_, 1) := by decide +kernel
theorem dX6_putNumber_0 : decode cX6_putNumber 0 = .ok (.aload_n 0, 1) := by decide +kernel
theorem dX6_putNumber_1 : decode cX6_putNumber 1 = .ok (.bipush 32, 2) := by decide +kernel
theorem dX6_putNumber_3 : decode cX6_putNumber 3 = .ok (.invokevirtual 76, 3) := by decide +kernel
theorem dX6_putNumber_6 : decode cX6_putNumber 6 = .ok (.iconst 1, 1) := by decide +kernel
theorem dX6_putNumber_7 : decode cX6_putNumber 7 = .ok (.istore_n 2, 1) := by decide +kernel
theorem dX6_putNumber_8 : decode cX6_putNumber 8 = .ok (.iconst 0, 1) := by decide +kernel
theorem dX6_putNumber_9 : decode cX6_putNumber 9 = .ok (.istore_n 3, 1) := by decide +kernel
theorem dX6_putNumber_10 : decode cX6_putNumber 10 = .ok (.iload_n 3, 1) := by decide +kernel
theorem dX6_putNumber_11 : decode cX6_putNumber 11 = .ok (.bipush 9, 2) := by decide +kernel
theorem dX6_putNumber_13 : decode cX6_putNumber 13 = .ok (.if_icmp .ge 22, 3) := by decide +kernel
theorem dX6_putNumber_16 : decode cX6_putNumber 16 = .ok (.iload_n 1, 1) := by decide +kernel
theorem dX6_putNumber_17 : decode cX6_putNumber 17 = .ok (.iload_n 2, 1) := by decide +kernel
theorem dX6_putNumber_18 : decode cX6_putNumber 18 = .ok (.idiv, 1) := by decide +kernel
theorem dX6_putNumber_19 : decode cX6_putNumber 19 = .ok (.bipush 10, 2) := by decide +kernel
theorem dX6_putNumber_21 : decode cX6_putNumber 21 = .ok (.if_icmp .lt 14, 3) := by decide +kernel
theorem dX6_putNumber_24 : decode cX6_putNumber 24 = .ok (.iload_n 2, 1) := by decide +kernel
theorem dX6_putNumber_25 : decode cX6_putNumber 25 = .ok (.bipush 10, 2) := by decide +kernel
theorem dX6_putNumber_27 : decode cX6_putNumber 27 = .ok (.imul, 1) := by decide +kernel
theorem dX6_putNumber_28 : decode cX6_putNumber 28 = .ok (.istore_n 2, 1) := by decide +kernel
theorem dX6_putNumber_29 : decode cX6_putNumber 29 = .ok (.iinc 3 1, 3) := by decide +kernel
theorem dX6_putNumber_32 : decode cX6_putNumber 32 = .ok (.goto (-22), 3) := by decide +kernel
theorem dX6_putNumber_35 : decode cX6_putNumber 35 = .ok (.iconst 0, 1) := by decide +kernel
theorem dX6_putNumber_36 : decode cX6_putNumber 36 = .ok (.istore_n 3, 1) := by decide +kernel
theorem dX6_putNumber_37 : decode cX6_putNumber 37 = .ok (.iload_n 3, 1) := by decide +kernel
theorem dX6_putNumber_38 : decode cX6_putNumber 38 = .ok (.bipush 10, 2) := by decide +kernel
theorem dX6_putNumber_40 : decode cX6_putNumber 40 = .ok (.if_icmp .ge 31, 3) := by decide +kernel
theorem dX6_putNumber_43 : decode cX6_putNumber 43 = .ok (.iload_n 2, 1) := by decide +kernel
theorem dX6_putNumber_44 : decode cX6_putNumber 44 = .ok (.ifCond .le 27, 3) := by decide +kernel
theorem dX6_putNumber_47 : decode cX6_putNumber 47 = .ok (.aload_n 0, 1) := by decide +kernel
theorem dX6_putNumber_48 : decode cX6_putNumber 48 = .ok (.bipush 48, 2) := by decide +kernel
theorem dX6_putNumber_50 : decode cX6_putNumber 50 = .ok (.iload_n 1, 1) := by decide +kernel
theorem dX6_putNumber_51 : decode cX6_putNumber 51 = .ok (.iload_n 2, 1) := by decide +kernel
theorem dX6_putNumber_52 : decode cX6_putNumber 52 = .ok (.idiv, 1) := by decide +kernel
theorem dX6_putNumber_53 : decode cX6_putNumber 53 = .ok (.bipush 10, 2) := by decide +kernel
theorem dX6_putNumber_55 : decode cX6_putNumber 55 = .ok (.irem, 1) := by decide +kernel
theorem dX6_putNumber_56 : decode cX6_putNumber 56 = .ok (.iadd, 1) := by decide +kernel
theorem dX6_putNumber_57 : decode cX6_putNumber 57 = .ok (.invokevirtual 76, 3) := by decide +kernel
theorem dX6_putNumber_60 : decode cX6_putNumber 60 = .ok (.iload_n 2, 1) := by decide +kernel
theorem dX6_putNumber_61 : decode cX6_putNumber 61 = .ok (.bipush 10, 2) := by decide +kernel
theorem dX6_putNumber_63 : decode cX6_putNumber 63 = .ok (.idiv, 1) := by decide +kernel
theorem dX6_putNumber_64 : decode cX6_putNumber 64 = .ok (.istore_n 2, 1) := by decide +kernel
theorem dX6_putNumber_65 : decode cX6_putNumber 65 = .ok (.iinc 3 1, 3) := by decide +kernel
theorem dX6_putNumber_68 : decode cX6_putNumber 68 = .ok (.goto (-31), 3) := by decide +kernel
theorem dX6_putNumber_71 : decode cX6_putNumber 71 = .ok (.return_, 1) := by decide +kernel
theorem dX7_init_0 : decode cX7_init 0 = .ok (.aload_n 0, 1) := by decide +kernel
theorem dX7_init_1 : decode cX7_init 1 = .ok (.invokespecial 3, 3) := by decide +kernel
theorem dX7_init_4 : decode cX7_init 4 = .ok (.aload_n 0, 1) := by decide +kernel
theorem dX7_init_5 : decode cX7_init 5 = .ok (.new 9, 3) := by decide +kernel
theorem dX7_init_8 : decode cX7_init 8 = .ok (.dup, 1) := by decide +kernel
theorem dX7_init_9 : decode cX7_init 9 = .ok (.invokespecial 11, 3) := by decide +kernel
theorem dX7_init_12 : decode cX7_init 12 = .ok (.putfield 12, 3) := by decide +kernel
theorem dX7_init_15 : decode cX7_init 15 = .ok (.aload_n 0, 1) := by decide +kernel
theorem dX7_init_16 : decode cX7_init 16 = .ok (.new 18, 3) := by decide +kernel
theorem dX7_init_19 : decode cX7_init 19 = .ok (.dup, 1) := by decide +kernel
theorem dX7_init_20 : decode cX7_init 20 = .ok (.invokespecial 20, 3) := by decide +kernel
theorem dX7_init_23 : decode cX7_init 23 = .ok (.putfield 21, 3) := by decide +kernel
theorem dX7_init_26 : decode cX7_init 26 = .ok (.aload_n 0, 1) := by decide +kernel
theorem dX7_init_27 : decode cX7_init 27 = .ok (.new 25, 3) := by decide +kernel
theorem dX7_init_30 : decode cX7_init 30 = .ok (.dup, 1) := by decide +kernel
theorem dX7_init_31 : decode cX7_init 31 = .ok (.invokespecial 27, 3) := by decide +kernel
theorem dX7_init_34 : decode cX7_init 34 = .ok (.putfield 28, 3) := by decide +kernel
theorem dX7_init_37 : decode cX7_init 37 = .ok (.aload_n 0, 1) := by decide +kernel
theorem dX7_init_38 : decode cX7_init 38 = .ok (.new 32, 3) := by decide +kernel
theorem dX7_init_41 : decode cX7_init 41 = .ok (.dup, 1) := by decide +kernel
theorem dX7_init_42 : decode cX7_init 42 = .ok (.invokespecial 34, 3) := by decide +kernel
theorem dX7_init_45 : decode cX7_init 45 = .ok (.putfield 35, 3) := by decide +kernel
theorem dX7_init_48 : decode cX7_init 48 = .ok (.aload_n 0, 1) := by decide +kernel
theorem dX7_init_49 : decode cX7_init 49 = .ok (.bipush 8, 2) := by decide +kernel
theorem dX7_init_51 : decode cX7_init 51 = .ok (.newarray .double, 2) := by decide +kernel
theorem dX7_init_53 : decode cX7_init 53 = .ok (.putfield 39, 3) := by decide +kernel
theorem dX7_init_56 : decode cX7_init 56 = .ok (.aload_n 0, 1) := by decide +kernel
theorem dX7_init_57 : decode cX7_init 57 = .ok (.iconst 5, 1) := by decide +kernel
theorem dX7_init_58 : decode cX7_init 58 = .ok (.newarray .int, 2) := by decide +kernel
theorem dX7_init_60 : decode cX7_init 60 = .ok (.putfield 43, 3) := by decide +kernel
theorem dX7_init_63 : decode cX7_init 63 = .ok (.return_, 1) := by decide +kernel
theorem dX7_copyFrom_0 : decode cX7_copyFrom 0 = .ok (.aload_n 0, 1) := by decide +kernel
theorem dX7_copyFrom_1 : decode cX7_copyFrom 1 = .ok (.getfield 12, 3) := by decide +kernel
theorem dX7_copyFrom_4 : decode cX7_copyFrom 4 = .ok (.aload_n 1, 1) := by decide +kernel
theorem dX7_copyFrom_5 : decode cX7_copyFrom 5 = .ok (.getfield 12, 3) := by decide +kernel
theorem dX7_copyFrom_8 : decode cX7_copyFrom 8 = .ok (.invokevirtual 47, 3) := by decide +kernel
theorem dX7_copyFrom_11 : decode cX7_copyFrom 11 = .ok (.aload_n 0, 1) := by decide +kernel
theorem dX7_copyFrom_12 : decode cX7_copyFrom 12 = .ok (.getfield 21, 3) := by decide +kernel
theorem dX7_copyFrom_15 : decode cX7_copyFrom 15 = .ok (.aload_n 1, 1) := by decide +kernel
theorem dX7_copyFrom_16 : decode cX7_copyFrom 16 = .ok (.getfield 21, 3) := by decide +kernel
theorem dX7_copyFrom_19 : decode cX7_copyFrom 19 = .ok (.invokevirtual 51, 3) := by decide +kernel
theorem dX7_copyFrom_22 : decode cX7_copyFrom 22 = .ok (.aload_n 0, 1) := by decide +kernel
theorem dX7_copyFrom_23 : decode cX7_copyFrom 23 = .ok (.getfield 28, 3) := by decide +kernel
theorem dX7_copyFrom_26 : decode cX7_copyFrom 26 = .ok (.aload_n 1, 1) := by decide +kernel
theorem dX7_copyFrom_27 : decode cX7_copyFrom 27 = .ok (.getfield 28, 3) := by decide +kernel
theorem dX7_copyFrom_30 : decode cX7_copyFrom 30 = .ok (.invokevirtual 54, 3) := by decide +kernel
theorem dX7_copyFrom_33 : decode cX7_copyFrom 33 = .ok (.aload_n 0, 1) := by decide +kernel
theorem dX7_copyFrom_34 : decode cX7_copyFrom 34 = .ok (.getfield 35, 3) := by decide +kernel
theorem dX7_copyFrom_37 : decode cX7_copyFrom 37 = .ok (.aload_n 1, 1) := by decide +kernel
theorem dX7_copyFrom_38 : decode cX7_copyFrom 38 = .ok (.getfield 35, 3) := by decide +kernel
theorem dX7_copyFrom_41 : decode cX7_copyFrom 41 = .ok (.invokevirtual 57, 3) := by decide +kernel
theorem dX7_copyFrom_44 : decode cX7_copyFrom 44 = .ok (.aload_n 1, 1) := by decide +kernel
theorem dX7_copyFrom_45 : decode cX7_copyFrom 45 = .ok (.getfield 39, 3) := by decide +kernel
theorem dX7_copyFrom_48 : decode cX7_copyFrom 48 = .ok (.iconst 0, 1) := by decide +kernel
theorem dX7_copyFrom_49 : decode cX7_copyFrom 49 = .ok (.aload_n 0, 1) := by decide +kernel
theorem dX7_copyFrom_50 : decode cX7_copyFrom 50 = .ok (.getfield 39, 3) := by decide +kernel
theorem dX7_copyFrom_53 : decode cX7_copyFrom 53 = .ok (.iconst 0, 1) := by decide +kernel
theorem dX7_copyFrom_54 : decode cX7_copyFrom 54 = .ok (.aload_n 0, 1) := by decide +kernel
theorem dX7_copyFrom_55 : decode cX7_copyFrom 55 = .ok (.getfield 39, 3) := by decide +kernel
theorem dX7_copyFrom_58 : decode cX7_copyFrom 58 = .ok (.arraylength, 1) := by decide +kernel
theorem dX7_copyFrom_59 : decode cX7_copyFrom 59 = .ok (.invokestatic 60, 3) := by decide +kernel
theorem dX7_copyFrom_62 : decode cX7_copyFrom 62 = .ok (.aload_n 1, 1) := by decide +kernel
theorem dX7_copyFrom_63 : decode cX7_copyFrom 63 = .ok (.getfield 43, 3) := by decide +kernel
theorem dX7_copyFrom_66 : decode cX7_copyFrom 66 = .ok (.iconst 0, 1) := by decide +kernel
theorem dX7_copyFrom_67 : decode cX7_copyFrom 67 = .ok (.aload_n 0, 1) := by decide +kernel
theorem dX7_copyFrom_68 : decode cX7_copyFrom 68 = .ok (.getfield 43, 3) := by decide +kernel
theorem dX7_copyFrom_71 : decode cX7_copyFrom 71 = .ok (.iconst 0, 1) := by decide +kernel
theorem dX7_copyFrom_72 : decode cX7_copyFrom 72 = .ok (.aload_n 0, 1) := by decide +kernel
theorem dX7_copyFrom_73 : decode cX7_copyFrom 73 = .ok (.getfield 43, 3) := by decide +kernel
theorem dX7_copyFrom_76 : decode cX7_copyFrom 76 = .ok (.arraylength, 1) := by decide +kernel
theorem dX7_copyFrom_77 : decode cX7_copyFrom 77 = .ok (.invokestatic 60, 3) := by decide +kernel
theorem dX7_copyFrom_80 : decode cX7_copyFrom 80 = .ok (.aload_n 0, 1) := by decide +kernel
theorem dX7_copyFrom_81 : decode cX7_copyFrom 81 = .ok (.aload_n 1, 1) := by decide +kernel
theorem dX7_copyFrom_82 : decode cX7_copyFrom 82 = .ok (.getfield 66, 3) := by decide +kernel
theorem dX7_copyFrom_85 : decode cX7_copyFrom 85 = .ok (.putfield 66, 3) := by decide +kernel
theorem dX7_copyFrom_88 : decode cX7_copyFrom 88 = .ok (.return_, 1) := by decide +kernel
theorem dX7_startWith_0 : decode cX7_startWith 0 = .ok (.aload_n 0, 1) := by decide +kernel
theorem dX7_startWith_1 : decode cX7_startWith 1 = .ok (.getfield 12, 3) := by decide +kernel
theorem dX7_startWith_4 : decode cX7_startWith 4 = .ok (.aload_n 1, 1) := by decide +kernel
theorem dX7_startWith_5 : decode cX7_startWith 5 = .ok (.invokevirtual 47, 3) := by decide +kernel
theorem dX7_startWith_8 : decode cX7_startWith 8 = .ok (.aload_n 0, 1) := by decide +kernel
theorem dX7_startWith_9 : decode cX7_startWith 9 = .ok (.getfield 21, 3) := by decide +kernel
theorem dX7_startWith_12 : decode cX7_startWith 12 = .ok (.iconst 0, 1) := by decide +kernel
theorem dX7_startWith_13 : decode cX7_startWith 13 = .ok (.putfield 70, 3) := by decide +kernel
theorem dX7_startWith_16 : decode cX7_startWith 16 = .ok (.aload_n 0, 1) := by decide +kernel
theorem dX7_startWith_17 : decode cX7_startWith 17 = .ok (.getfield 28, 3) := by decide +kernel
theorem dX7_startWith_20 : decode cX7_startWith 20 = .ok (.iconst 0, 1) := by decide +kernel
theorem dX7_startWith_21 : decode cX7_startWith 21 = .ok (.putfield 73, 3) := by decide +kernel
theorem dX7_startWith_24 : decode cX7_startWith 24 = .ok (.aload_n 0, 1) := by decide +kernel
theorem dX7_startWith_25 : decode cX7_startWith 25 = .ok (.getfield 35, 3) := by decide +kernel
theorem dX7_startWith_28 : decode cX7_startWith 28 = .ok (.invokevirtual 76, 3) := by decide +kernel
theorem dX7_startWith_31 : decode cX7_startWith 31 = .ok (.aload_n 0, 1) := by decide +kernel
theorem dX7_startWith_32 : decode cX7_startWith 32 = .ok (.getfield 39, 3) := by decide +kernel
theorem dX7_startWith_35 : decode cX7_startWith 35 = .ok (.dconst 0, 1) := by decide +kernel
theorem dX7_startWith_36 : decode cX7_startWith 36 = .ok (.invokestatic 79, 3) := by decide +kernel
theorem dX7_startWith_39 : decode cX7_startWith 39 = .ok (.aload_n 0, 1) := by decide +kernel
theorem dX7_startWith_40 : decode cX7_startWith 40 = .ok (.getfield 43, 3) := by decide +kernel
theorem dX7_startWith_43 : decode cX7_startWith 43 = .ok (.iconst 0, 1) := by decide +kernel
theorem dX7_startWith_44 : decode cX7_startWith 44 = .ok (.invokestatic 85, 3) := by decide +kernel
theorem dX7_startWith_47 : decode cX7_startWith 47 = .ok (.aload_n 0, 1) := by decide +kernel
theorem dX7_startWith_48 : decode cX7_startWith 48 = .ok (.iconst 0, 1) := by decide +kernel
theorem dX7_startWith_49 : decode cX7_startWith 49 = .ok (.putfield 66, 3) := by decide +kernel
theorem dX7_startWith_52 : decode cX7_startWith 52 = .ok (.aload_n 0, 1) := by decide +kernel
theorem dX7_startWith_53 : decode cX7_startWith 53 = .ok (.invokevirtual 88, 3) := by decide +kernel
theorem dX7_startWith_56 : decode cX7_startWith 56 = .ok (.return_, 1) := by decide +kernel
theorem dX7_hasScheme_0 : decode cX7_hasScheme 0 = .ok (.aload_n 0, 1) := by decide +kernel
theorem dX7_hasScheme_1 : decode cX7_hasScheme 1 = .ok (.getfield 12, 3) := by decide +kernel
theorem dX7_hasScheme_4 : decode cX7_hasScheme 4 = .ok (.getfield 91, 3) := by decide +kernel
theorem dX7_hasScheme_7 : decode cX7_hasScheme 7 = .ok (.ifCond .le 7, 3) := by decide +kernel
theorem dX7_hasScheme_10 : decode cX7_hasScheme 10 = .ok (.iconst 1, 1) := by decide +kernel
theorem dX7_hasScheme_11 : decode cX7_hasScheme 11 = .ok (.goto 4, 3) := by decide +kernel
theorem dX7_hasScheme_14 : decode cX7_hasScheme 14 = .ok (.iconst 0, 1) := by decide +kernel
theorem dX7_hasScheme_15 : decode cX7_hasScheme 15 = .ok (.ireturn, 1) := by decide +kernel
theorem dX7_hasOrigin_0 : decode cX7_hasOrigin 0 = .ok (.iload_n 1, 1) := by decide +kernel
theorem dX7_hasOrigin_1 : decode cX7_hasOrigin 1 = .ok (.ifCond .lt 18, 3) := by decide +kernel
theorem dX7_hasOrigin_4 : decode cX7_hasOrigin 4 = .ok (.iload_n 1, 1) := by decide +kernel
theorem dX7_hasOrigin_5 : decode cX7_hasOrigin 5 = .ok (.aload_n 0, 1) := by decide +kernel
theorem dX7_hasOrigin_6 : decode cX7_hasOrigin 6 = .ok (.getfield 12, 3) := by decide +kernel
theorem dX7_hasOrigin_9 : decode cX7_hasOrigin 9 = .ok (.getfield 91, 3) := by decide +kernel
theorem dX7_hasOrigin_12 : decode cX7_hasOrigin 12 = .ok (.if_icmp .ge 7, 3) := by decide +kernel
theorem dX7_hasOrigin_15 : decode cX7_hasOrigin 15 = .ok (.iconst 1, 1) := by decide +kernel
theorem dX7_hasOrigin_16 : decode cX7_hasOrigin 16 = .ok (.goto 4, 3) := by decide +kernel
theorem dX7_hasOrigin_19 : decode cX7_hasOrigin 19 = .ok (.iconst 0, 1) := by decide +kernel
theorem dX7_hasOrigin_20 : decode cX7_hasOrigin 20 = .ok (.ireturn, 1) := by decide +kernel
theorem dX7_hasImporter_0 : decode cX7_hasImporter 0 = .ok (.iload_n 1, 1) := by decide +kernel
theorem dX7_hasImporter_1 : decode cX7_hasImporter 1 = .ok (.ifCond .lt 18, 3) := by decide +kernel
theorem dX7_hasImporter_4 : decode cX7_hasImporter 4 = .ok (.iload_n 1, 1) := by decide +kernel
theorem dX7_hasImporter_5 : decode cX7_hasImporter 5 = .ok (.aload_n 0, 1) := by decide +kernel
theorem dX7_hasImporter_6 : decode cX7_hasImporter 6 = .ok (.getfield 12, 3) := by decide +kernel
theorem dX7_hasImporter_9 : decode cX7_hasImporter 9 = .ok (.getfield 94, 3) := by decide +kernel
theorem dX7_hasImporter_12 : decode cX7_hasImporter 12 = .ok (.if_icmp .ge 7, 3) := by decide +kernel
theorem dX7_hasImporter_15 : decode cX7_hasImporter 15 = .ok (.iconst 1, 1) := by decide +kernel
theorem dX7_hasImporter_16 : decode cX7_hasImporter 16 = .ok (.goto 4, 3) := by decide +kernel
theorem dX7_hasImporter_19 : decode cX7_hasImporter 19 = .ok (.iconst 0, 1) := by decide +kernel
theorem dX7_hasImporter_20 : decode cX7_hasImporter 20 = .ok (.ireturn, 1) := by decide +kernel
theorem dX7_hasPair_0 : decode cX7_hasPair 0 = .ok (.aload_n 0, 1) := by decide +kernel
theorem dX7_hasPair_1 : decode cX7_hasPair 1 = .ok (.iload_n 1, 1) := by decide +kernel
theorem dX7_hasPair_2 : decode cX7_hasPair 2 = .ok (.invokevirtual 97, 3) := by decide +kernel
theorem dX7_hasPair_5 : decode cX7_hasPair 5 = .ok (.ifCond .eq 15, 3) := by decide +kernel
theorem dX7_hasPair_8 : decode cX7_hasPair 8 = .ok (.aload_n 0, 1) := by decide +kernel
theorem dX7_hasPair_9 : decode cX7_hasPair 9 = .ok (.iload_n 2, 1) := by decide +kernel
theorem dX7_hasPair_10 : decode cX7_hasPair 10 = .ok (.invokevirtual 101, 3) := by decide +kernel
theorem dX7_hasPair_13 : decode cX7_hasPair 13 = .ok (.ifCond .eq 7, 3) := by decide +kernel
theorem dX7_hasPair_16 : decode cX7_hasPair 16 = .ok (.iconst 1, 1) := by decide +kernel
theorem dX7_hasPair_17 : decode cX7_hasPair 17 = .ok (.goto 4, 3) := by decide +kernel
theorem dX7_hasPair_20 : decode cX7_hasPair 20 = .ok (.iconst 0, 1) := by decide +kernel
theorem dX7_hasPair_21 : decode cX7_hasPair 21 = .ok (.ireturn, 1) := by decide +kernel
theorem dX7_startPeriod_0 : decode cX7_startPeriod 0 = .ok (.iconst 0, 1) := by decide +kernel
theorem dX7_startPeriod_1 : decode cX7_startPeriod 1 = .ok (.istore_n 1, 1) := by decide +kernel
theorem dX7_startPeriod_2 : decode cX7_startPeriod 2 = .ok (.iload_n 1, 1) := by decide +kernel
theorem dX7_startPeriod_3 : decode cX7_startPeriod 3 = .ok (.aload_n 0, 1) := by decide +kernel
theorem dX7_startPeriod_4 : decode cX7_startPeriod 4 = .ok (.getfield 12, 3) := by decide +kernel
theorem dX7_startPeriod_7 : decode cX7_startPeriod 7 = .ok (.getfield 91, 3) := by decide +kernel
theorem dX7_startPeriod_10 : decode cX7_startPeriod 10 = .ok (.if_icmp .ge 87, 3) := by decide +kernel
theorem dX7_startPeriod_13 : decode cX7_startPeriod 13 = .ok (.aload_n 0, 1) := by decide +kernel
theorem dX7_startPeriod_14 : decode cX7_startPeriod 14 = .ok (.getfield 66, 3) := by decide +kernel
theorem dX7_startPeriod_17 : decode cX7_startPeriod 17 = .ok (.sipush 360, 3) := by decide +kernel
theorem dX7_startPeriod_20 : decode cX7_startPeriod 20 = .ok (.irem, 1) := by decide +kernel
theorem dX7_startPeriod_21 : decode cX7_startPeriod 21 = .ok (.ifCond .ne 7, 3) := by decide +kernel
theorem dX7_startPeriod_24 : decode cX7_startPeriod 24 = .ok (.iconst 0, 1) := by decide +kernel
theorem dX7_startPeriod_25 : decode cX7_startPeriod 25 = .ok (.goto 8, 3) := by decide +kernel
theorem dX7_startPeriod_28 : decode cX7_startPeriod 28 = .ok (.aload_n 0, 1) := by decide +kernel
theorem dX7_startPeriod_29 : decode cX7_startPeriod 29 = .ok (.iload_n 1, 1) := by decide +kernel
theorem dX7_startPeriod_30 : decode cX7_startPeriod 30 = .ok (.invokevirtual 104, 3) := by decide +kernel
theorem dX7_startPeriod_33 : decode cX7_startPeriod 33 = .ok (.istore_n 2, 1) := by decide +kernel
theorem dX7_startPeriod_34 : decode cX7_startPeriod 34 = .ok (.aload_n 0, 1) := by decide +kernel
theorem dX7_startPeriod_35 : decode cX7_startPeriod 35 = .ok (.getfield 12, 3) := by decide +kernel
theorem dX7_startPeriod_38 : decode cX7_startPeriod 38 = .ok (.getfield 108, 3) := by decide +kernel
theorem dX7_startPeriod_41 : decode cX7_startPeriod 41 = .ok (.iload_n 1, 1) := by decide +kernel
theorem dX7_startPeriod_42 : decode cX7_startPeriod 42 = .ok (.iaload, 1) := by decide +kernel
theorem dX7_startPeriod_43 : decode cX7_startPeriod 43 = .ok (.istore_n 3, 1) := by decide +kernel
theorem dX7_startPeriod_44 : decode cX7_startPeriod 44 = .ok (.aload_n 0, 1) := by decide +kernel
theorem dX7_startPeriod_45 : decode cX7_startPeriod 45 = .ok (.getfield 28, 3) := by decide +kernel
theorem dX7_startPeriod_48 : decode cX7_startPeriod 48 = .ok (.iload_n 1, 1) := by decide +kernel
theorem dX7_startPeriod_49 : decode cX7_startPeriod 49 = .ok (.invokevirtual 111, 3) := by decide +kernel
theorem dX7_startPeriod_52 : decode cX7_startPeriod 52 = .ok (.aload_n 0, 1) := by decide +kernel
theorem dX7_startPeriod_53 : decode cX7_startPeriod 53 = .ok (.getfield 28, 3) := by decide +kernel
theorem dX7_startPeriod_56 : decode cX7_startPeriod 56 = .ok (.iload_n 1, 1) := by decide +kernel
theorem dX7_startPeriod_57 : decode cX7_startPeriod 57 = .ok (.iconst 1, 1) := by decide +kernel
theorem dX7_startPeriod_58 : decode cX7_startPeriod 58 = .ok (.iload_n 3, 1) := by decide +kernel
theorem dX7_startPeriod_59 : decode cX7_startPeriod 59 = .ok (.invokevirtual 115, 3) := by decide +kernel
theorem dX7_startPeriod_62 : decode cX7_startPeriod 62 = .ok (.aload_n 0, 1) := by decide +kernel
theorem dX7_startPeriod_63 : decode cX7_startPeriod 63 = .ok (.getfield 28, 3) := by decide +kernel
theorem dX7_startPeriod_66 : decode cX7_startPeriod 66 = .ok (.iload_n 1, 1) := by decide +kernel
theorem dX7_startPeriod_67 : decode cX7_startPeriod 67 = .ok (.iconst 2, 1) := by decide +kernel
theorem dX7_startPeriod_68 : decode cX7_startPeriod 68 = .ok (.iload_n 2, 1) := by decide +kernel
theorem dX7_startPeriod_69 : decode cX7_startPeriod 69 = .ok (.invokevirtual 115, 3) := by decide +kernel
theorem dX7_startPeriod_72 : decode cX7_startPeriod 72 = .ok (.aload_n 0, 1) := by decide +kernel
theorem dX7_startPeriod_73 : decode cX7_startPeriod 73 = .ok (.getfield 28, 3) := by decide +kernel
theorem dX7_startPeriod_76 : decode cX7_startPeriod 76 = .ok (.iload_n 1, 1) := by decide +kernel
theorem dX7_startPeriod_77 : decode cX7_startPeriod 77 = .ok (.iconst 3, 1) := by decide +kernel
theorem dX7_startPeriod_78 : decode cX7_startPeriod 78 = .ok (.iload_n 3, 1) := by decide +kernel
theorem dX7_startPeriod_79 : decode cX7_startPeriod 79 = .ok (.aload_n 0, 1) := by decide +kernel
theorem dX7_startPeriod_80 : decode cX7_startPeriod 80 = .ok (.iload_n 1, 1) := by decide +kernel
theorem dX7_startPeriod_81 : decode cX7_startPeriod 81 = .ok (.iload_n 3, 1) := by decide +kernel
theorem dX7_startPeriod_82 : decode cX7_startPeriod 82 = .ok (.invokevirtual 119, 3) := by decide +kernel
theorem dX7_startPeriod_85 : decode cX7_startPeriod 85 = .ok (.isub, 1) := by decide +kernel
theorem dX7_startPeriod_86 : decode cX7_startPeriod 86 = .ok (.iload_n 2, 1) := by decide +kernel
theorem dX7_startPeriod_87 : decode cX7_startPeriod 87 = .ok (.iadd, 1) := by decide +kernel
theorem dX7_startPeriod_88 : decode cX7_startPeriod 88 = .ok (.invokevirtual 115, 3) := by decide +kernel
theorem dX7_startPeriod_91 : decode cX7_startPeriod 91 = .ok (.iinc 1 1, 3) := by decide +kernel
theorem dX7_startPeriod_94 : decode cX7_startPeriod 94 = .ok (.goto (-92), 3) := by decide +kernel
theorem dX7_startPeriod_97 : decode cX7_startPeriod 97 = .ok (.return_, 1) := by decide +kernel
theorem dX7_partOut_0 : decode cX7_partOut 0 = .ok (.iconst 0, 1) := by decide +kernel
theorem dX7_partOut_1 : decode cX7_partOut 1 = .ok (.istore_n 3, 1) := by decide +kernel
theorem dX7_partOut_2 : decode cX7_partOut 2 = .ok (.iload_n 3, 1) := by decide +kernel
theorem dX7_partOut_3 : decode cX7_partOut 3 = .ok (.aload_n 0, 1) := by decide +kernel
theorem dX7_partOut_4 : decode cX7_partOut 4 = .ok (.getfield 12, 3) := by decide +kernel
theorem dX7_partOut_7 : decode cX7_partOut 7 = .ok (.getfield 94, 3) := by decide +kernel
theorem dX7_partOut_10 : decode cX7_partOut 10 = .ok (.if_icmp .ge 63, 3) := by decide +kernel
theorem dX7_partOut_13 : decode cX7_partOut 13 = .ok (.iload_n 3, 1) := by decide +kernel
theorem dX7_partOut_14 : decode cX7_partOut 14 = .ok (.iload_n 1, 1) := by decide +kernel
theorem dX7_partOut_15 : decode cX7_partOut 15 = .ok (.invokestatic 123, 3) := by decide +kernel
theorem dX7_partOut_18 : decode cX7_partOut 18 = .ok (.istore 4, 2) := by decide +kernel
theorem dX7_partOut_20 : decode cX7_partOut 20 = .ok (.aload_n 0, 1) := by decide +kernel
theorem dX7_partOut_21 : decode cX7_partOut 21 = .ok (.getfield 28, 3) := by decide +kernel
theorem dX7_partOut_24 : decode cX7_partOut 24 = .ok (.getfield 126, 3) := by decide +kernel
theorem dX7_partOut_27 : decode cX7_partOut 27 = .ok (.iload 4, 2) := by decide +kernel
theorem dX7_partOut_29 : decode cX7_partOut 29 = .ok (.aload_n 0, 1) := by decide +kernel
theorem dX7_partOut_30 : decode cX7_partOut 30 = .ok (.getfield 12, 3) := by decide +kernel
theorem dX7_partOut_33 : decode cX7_partOut 33 = .ok (.iload 4, 2) := by decide +kernel
theorem dX7_partOut_35 : decode cX7_partOut 35 = .ok (.invokevirtual 129, 3) := by decide +kernel
theorem dX7_partOut_38 : decode cX7_partOut 38 = .ok (.aload_n 0, 1) := by decide +kernel
theorem dX7_partOut_39 : decode cX7_partOut 39 = .ok (.getfield 12, 3) := by decide +kernel
theorem dX7_partOut_42 : decode cX7_partOut 42 = .ok (.getfield 132, 3) := by decide +kernel
theorem dX7_partOut_45 : decode cX7_partOut 45 = .ok (.iconst 5, 1) := by decide +kernel
theorem dX7_partOut_46 : decode cX7_partOut 46 = .ok (.iaload, 1) := by decide +kernel
theorem dX7_partOut_47 : decode cX7_partOut 47 = .ok (.if_icmp .lt 7, 3) := by decide +kernel
theorem dX7_partOut_50 : decode cX7_partOut 50 = .ok (.iconst 1, 1) := by decide +kernel
theorem dX7_partOut_51 : decode cX7_partOut 51 = .ok (.goto 4, 3) := by decide +kernel
theorem dX7_partOut_54 : decode cX7_partOut 54 = .ok (.iconst 0, 1) := by decide +kernel
theorem dX7_partOut_55 : decode cX7_partOut 55 = .ok (.iastore, 1) := by decide +kernel
theorem dX7_partOut_56 : decode cX7_partOut 56 = .ok (.aload_n 0, 1) := by decide +kernel
theorem dX7_partOut_57 : decode cX7_partOut 57 = .ok (.getfield 28, 3) := by decide +kernel
theorem dX7_partOut_60 : decode cX7_partOut 60 = .ok (.getfield 135, 3) := by decide +kernel
theorem dX7_partOut_63 : decode cX7_partOut 63 = .ok (.iload 4, 2) := by decide +kernel
theorem dX7_partOut_65 : decode cX7_partOut 65 = .ok (.iconst 0, 1) := by decide +kernel
theorem dX7_partOut_66 : decode cX7_partOut 66 = .ok (.iastore, 1) := by decide +kernel
theorem dX7_partOut_67 : decode cX7_partOut 67 = .ok (.iinc 3 1, 3) := by decide +kernel
theorem dX7_partOut_70 : decode cX7_partOut 70 = .ok (.goto (-68), 3) := by decide +kernel
theorem dX7_partOut_73 : decode cX7_partOut 73 = .ok (.iconst 0, 1) := by decide +kernel
theorem dX7_partOut_74 : decode cX7_partOut 74 = .ok (.istore_n 3, 1) := by decide +kernel
theorem dX7_partOut_75 : decode cX7_partOut 75 = .ok (.iconst 0, 1) := by decide +kernel
theorem dX7_partOut_76 : decode cX7_partOut 76 = .ok (.istore 4, 2) := by decide +kernel
theorem dX7_partOut_78 : decode cX7_partOut 78 = .ok (.iload 4, 2) := by decide +kernel
theorem dX7_partOut_80 : decode cX7_partOut 80 = .ok (.aload_n 0, 1) := by decide +kernel
theorem dX7_partOut_81 : decode cX7_partOut 81 = .ok (.getfield 12, 3) := by decide +kernel
theorem dX7_partOut_84 : decode cX7_partOut 84 = .ok (.getfield 94, 3) := by decide +kernel
theorem dX7_partOut_87 : decode cX7_partOut 87 = .ok (.if_icmp .ge 65, 3) := by decide +kernel
theorem dX7_partOut_90 : decode cX7_partOut 90 = .ok (.iload 4, 2) := by decide +kernel
theorem dX7_partOut_92 : decode cX7_partOut 92 = .ok (.iload_n 1, 1) := by decide +kernel
theorem dX7_partOut_93 : decode cX7_partOut 93 = .ok (.invokestatic 123, 3) := by decide +kernel
theorem dX7_partOut_96 : decode cX7_partOut 96 = .ok (.istore 5, 2) := by decide +kernel
theorem dX7_partOut_98 : decode cX7_partOut 98 = .ok (.aload_n 0, 1) := by decide +kernel
theorem dX7_partOut_99 : decode cX7_partOut 99 = .ok (.iload 4, 2) := by decide +kernel
theorem dX7_partOut_101 : decode cX7_partOut 101 = .ok (.iload_n 1, 1) := by decide +kernel
theorem dX7_partOut_102 : decode cX7_partOut 102 = .ok (.aload_n 0, 1) := by decide +kernel
theorem dX7_partOut_103 : decode cX7_partOut 103 = .ok (.getfield 12, 3) := by decide +kernel
theorem dX7_partOut_106 : decode cX7_partOut 106 = .ok (.getfield 132, 3) := by decide +kernel
theorem dX7_partOut_109 : decode cX7_partOut 109 = .ok (.iconst 0, 1) := by decide +kernel
theorem dX7_partOut_110 : decode cX7_partOut 110 = .ok (.iaload, 1) := by decide +kernel
theorem dX7_partOut_111 : decode cX7_partOut 111 = .ok (.iload_n 2, 1) := by decide +kernel
theorem dX7_partOut_112 : decode cX7_partOut 112 = .ok (.invokevirtual 138, 3) := by decide +kernel
theorem dX7_partOut_115 : decode cX7_partOut 115 = .ok (.istore 6, 2) := by decide +kernel
theorem dX7_partOut_117 : decode cX7_partOut 117 = .ok (.aload_n 0, 1) := by decide +kernel
theorem dX7_partOut_118 : decode cX7_partOut 118 = .ok (.getfield 28, 3) := by decide +kernel
theorem dX7_partOut_121 : decode cX7_partOut 121 = .ok (.getfield 142, 3) := by decide +kernel
theorem dX7_partOut_124 : decode cX7_partOut 124 = .ok (.iload 5, 2) := by decide +kernel
theorem dX7_partOut_126 : decode cX7_partOut 126 = .ok (.iload 6, 2) := by decide +kernel
theorem dX7_partOut_128 : decode cX7_partOut 128 = .ok (.iastore, 1) := by decide +kernel
theorem dX7_partOut_129 : decode cX7_partOut 129 = .ok (.aload_n 0, 1) := by decide +kernel
theorem dX7_partOut_130 : decode cX7_partOut 130 = .ok (.getfield 28, 3) := by decide +kernel
theorem dX7_partOut_133 : decode cX7_partOut 133 = .ok (.getfield 145, 3) := by decide +kernel
theorem dX7_partOut_136 : decode cX7_partOut 136 = .ok (.iload 5, 2) := by decide +kernel
theorem dX7_partOut_138 : decode cX7_partOut 138 = .ok (.iload 6, 2) := by decide +kernel
theorem dX7_partOut_140 : decode cX7_partOut 140 = .ok (.iastore, 1) := by decide +kernel
theorem dX7_partOut_141 : decode cX7_partOut 141 = .ok (.iload_n 3, 1) := by decide +kernel
theorem dX7_partOut_142 : decode cX7_partOut 142 = .ok (.iload 6, 2) := by decide +kernel
theorem dX7_partOut_144 : decode cX7_partOut 144 = .ok (.iadd, 1) := by decide +kernel
theorem dX7_partOut_145 : decode cX7_partOut 145 = .ok (.istore_n 3, 1) := by decide +kernel
theorem dX7_partOut_146 : decode cX7_partOut 146 = .ok (.iinc 4 1, 3) := by decide +kernel
theorem dX7_partOut_149 : decode cX7_partOut 149 = .ok (.goto (-71), 3) := by decide +kernel
theorem dX7_partOut_152 : decode cX7_partOut 152 = .ok (.iload_n 3, 1) := by decide +kernel
theorem dX7_partOut_153 : decode cX7_partOut 153 = .ok (.ireturn, 1) := by decide +kernel
theorem dX7_shareBy_0 : decode cX7_shareBy 0 = .ok (.iload_n 1, 1) := by decide +kernel
theorem dX7_shareBy_1 : decode cX7_shareBy 1 = .ok (.iload_n 2, 1) := by decide +kernel
theorem dX7_shareBy_2 : decode cX7_shareBy 2 = .ok (.invokestatic 123, 3) := by decide +kernel
theorem dX7_shareBy_5 : decode cX7_shareBy 5 = .ok (.istore 5, 2) := by decide +kernel
theorem dX7_shareBy_7 : decode cX7_shareBy 7 = .ok (.aload_n 0, 1) := by decide +kernel
theorem dX7_shareBy_8 : decode cX7_shareBy 8 = .ok (.getfield 28, 3) := by decide +kernel
theorem dX7_shareBy_11 : decode cX7_shareBy 11 = .ok (.iload 5, 2) := by decide +kernel
theorem dX7_shareBy_13 : decode cX7_shareBy 13 = .ok (.invokevirtual 148, 3) := by decide +kernel
theorem dX7_shareBy_16 : decode cX7_shareBy 16 = .ok (.ifCond .ne 5, 3) := by decide +kernel
theorem dX7_shareBy_19 : decode cX7_shareBy 19 = .ok (.iconst 0, 1) := by decide +kernel
theorem dX7_shareBy_20 : decode cX7_shareBy 20 = .ok (.ireturn, 1) := by decide +kernel
theorem dX7_shareBy_21 : decode cX7_shareBy 21 = .ok (.lconst 0, 1) := by decide +kernel
theorem dX7_shareBy_22 : decode cX7_shareBy 22 = .ok (.lstore 6, 2) := by decide +kernel
theorem dX7_shareBy_24 : decode cX7_shareBy 24 = .ok (.iconst 0, 1) := by decide +kernel
theorem dX7_shareBy_25 : decode cX7_shareBy 25 = .ok (.istore 8, 2) := by decide +kernel
theorem dX7_shareBy_27 : decode cX7_shareBy 27 = .ok (.iload 8, 2) := by decide +kernel
theorem dX7_shareBy_29 : decode cX7_shareBy 29 = .ok (.aload_n 0, 1) := by decide +kernel
theorem dX7_shareBy_30 : decode cX7_shareBy 30 = .ok (.getfield 12, 3) := by decide +kernel
theorem dX7_shareBy_33 : decode cX7_shareBy 33 = .ok (.getfield 94, 3) := by decide +kernel
theorem dX7_shareBy_36 : decode cX7_shareBy 36 = .ok (.if_icmp .ge 48, 3) := by decide +kernel
theorem dX7_shareBy_39 : decode cX7_shareBy 39 = .ok (.iload 8, 2) := by decide +kernel
theorem dX7_shareBy_41 : decode cX7_shareBy 41 = .ok (.iload_n 2, 1) := by decide +kernel
theorem dX7_shareBy_42 : decode cX7_shareBy 42 = .ok (.invokestatic 123, 3) := by decide +kernel
theorem dX7_shareBy_45 : decode cX7_shareBy 45 = .ok (.istore 9, 2) := by decide +kernel
theorem dX7_shareBy_47 : decode cX7_shareBy 47 = .ok (.lload 6, 2) := by decide +kernel
theorem dX7_shareBy_49 : decode cX7_shareBy 49 = .ok (.aload_n 0, 1) := by decide +kernel
theorem dX7_shareBy_50 : decode cX7_shareBy 50 = .ok (.getfield 28, 3) := by decide +kernel
theorem dX7_shareBy_53 : decode cX7_shareBy 53 = .ok (.iload 9, 2) := by decide +kernel
theorem dX7_shareBy_55 : decode cX7_shareBy 55 = .ok (.invokevirtual 148, 3) := by decide +kernel
theorem dX7_shareBy_58 : decode cX7_shareBy 58 = .ok (.ifCond .eq 16, 3) := by decide +kernel
theorem dX7_shareBy_61 : decode cX7_shareBy 61 = .ok (.aload_n 0, 1) := by decide +kernel
theorem dX7_shareBy_62 : decode cX7_shareBy 62 = .ok (.getfield 12, 3) := by decide +kernel
theorem dX7_shareBy_65 : decode cX7_shareBy 65 = .ok (.iload 9, 2) := by decide +kernel
theorem dX7_shareBy_67 : decode cX7_shareBy 67 = .ok (.invokevirtual 151, 3) := by decide +kernel
theorem dX7_shareBy_70 : decode cX7_shareBy 70 = .ok (.i2l, 1) := by decide +kernel
theorem dX7_shareBy_71 : decode cX7_shareBy 71 = .ok (.goto 4, 3) := by decide +kernel
theorem dX7_shareBy_74 : decode cX7_shareBy 74 = .ok (.lconst 0, 1) := by decide +kernel
theorem dX7_shareBy_75 : decode cX7_shareBy 75 = .ok (.ladd, 1) := by decide +kernel
theorem dX7_shareBy_76 : decode cX7_shareBy 76 = .ok (.lstore 6, 2) := by decide +kernel
theorem dX7_shareBy_78 : decode cX7_shareBy 78 = .ok (.iinc 8 1, 3) := by decide +kernel
theorem dX7_shareBy_81 : decode cX7_shareBy 81 = .ok (.goto (-54), 3) := by decide +kernel
theorem dX7_shareBy_84 : decode cX7_shareBy 84 = .ok (.iload_n 3, 1) := by decide +kernel
theorem dX7_shareBy_85 : decode cX7_shareBy 85 = .ok (.iload 4, 2) := by decide +kernel
theorem dX7_shareBy_87 : decode cX7_shareBy 87 = .ok (.imul, 1) := by decide +kernel
theorem dX7_shareBy_88 : decode cX7_shareBy 88 = .ok (.bipush 100, 2) := by decide +kernel
theorem dX7_shareBy_90 : decode cX7_shareBy 90 = .ok (.idiv, 1) := by decide +kernel
theorem dX7_shareBy_91 : decode cX7_shareBy 91 = .ok (.aload_n 0, 1) := by decide +kernel
theorem dX7_shareBy_92 : decode cX7_shareBy 92 = .ok (.getfield 12, 3) := by decide +kernel
theorem dX7_shareBy_95 : decode cX7_shareBy 95 = .ok (.iload 5, 2) := by decide +kernel
theorem dX7_shareBy_97 : decode cX7_shareBy 97 = .ok (.invokevirtual 151, 3) := by decide +kernel
theorem dX7_shareBy_100 : decode cX7_shareBy 100 = .ok (.lload 6, 2) := by decide +kernel
theorem dX7_shareBy_102 : decode cX7_shareBy 102 = .ok (.invokestatic 154, 3) := by decide +kernel
theorem dX7_shareBy_105 : decode cX7_shareBy 105 = .ok (.ireturn, 1) := by decide +kernel
theorem dX7_shareNextYear_0 : decode cX7_shareNextYear 0 = .ok (.lconst 0, 1) := by decide +kernel
theorem dX7_shareNextYear_1 : decode cX7_shareNextYear 1 = .ok (.lstore_n 3, 1) := by decide +kernel
theorem dX7_shareNextYear_2 : decode cX7_shareNextYear 2 = .ok (.iconst 0, 1) := by decide +kernel
theorem dX7_shareNextYear_3 : decode cX7_shareNextYear 3 = .ok (.istore 5, 2) := by decide +kernel
theorem dX7_shareNextYear_5 : decode cX7_shareNextYear 5 = .ok (.iload 5, 2) := by decide +kernel
theorem dX7_shareNextYear_7 : decode cX7_shareNextYear 7 = .ok (.aload_n 0, 1) := by decide +kernel
theorem dX7_shareNextYear_8 : decode cX7_shareNextYear 8 = .ok (.getfield 12, 3) := by decide +kernel
theorem dX7_shareNextYear_11 : decode cX7_shareNextYear 11 = .ok (.getfield 94, 3) := by decide +kernel
theorem dX7_shareNextYear_14 : decode cX7_shareNextYear 14 = .ok (.if_icmp .ge 23, 3) := by decide +kernel
theorem dX7_shareNextYear_17 : decode cX7_shareNextYear 17 = .ok (.lload_n 3, 1) := by decide +kernel
theorem dX7_shareNextYear_18 : decode cX7_shareNextYear 18 = .ok (.aload_n 0, 1) := by decide +kernel
theorem dX7_shareNextYear_19 : decode cX7_shareNextYear 19 = .ok (.iload 5, 2) := by decide +kernel
theorem dX7_shareNextYear_21 : decode cX7_shareNextYear 21 = .ok (.iload_n 2, 1) := by decide +kernel
theorem dX7_shareNextYear_22 : decode cX7_shareNextYear 22 = .ok (.invokestatic 123, 3) := by decide +kernel
theorem dX7_shareNextYear_25 : decode cX7_shareNextYear 25 = .ok (.invokevirtual 158, 3) := by decide +kernel
theorem dX7_shareNextYear_28 : decode cX7_shareNextYear 28 = .ok (.i2l, 1) := by decide +kernel
theorem dX7_shareNextYear_29 : decode cX7_shareNextYear 29 = .ok (.ladd, 1) := by decide +kernel
theorem dX7_shareNextYear_30 : decode cX7_shareNextYear 30 = .ok (.lstore_n 3, 1) := by decide +kernel
theorem dX7_shareNextYear_31 : decode cX7_shareNextYear 31 = .ok (.iinc 5 1, 3) := by decide +kernel
theorem dX7_shareNextYear_34 : decode cX7_shareNextYear 34 = .ok (.goto (-29), 3) := by decide +kernel
theorem dX7_shareNextYear_37 : decode cX7_shareNextYear 37 = .ok (.aload_n 0, 1) := by decide +kernel
theorem dX7_shareNextYear_38 : decode cX7_shareNextYear 38 = .ok (.getfield 12, 3) := by decide +kernel
theorem dX7_shareNextYear_41 : decode cX7_shareNextYear 41 = .ok (.getfield 132, 3) := by decide +kernel
theorem dX7_shareNextYear_44 : decode cX7_shareNextYear 44 = .ok (.iconst 0, 1) := by decide +kernel
theorem dX7_shareNextYear_45 : decode cX7_shareNextYear 45 = .ok (.iaload, 1) := by decide +kernel
theorem dX7_shareNextYear_46 : decode cX7_shareNextYear 46 = .ok (.aload_n 0, 1) := by decide +kernel
theorem dX7_shareNextYear_47 : decode cX7_shareNextYear 47 = .ok (.getfield 12, 3) := by decide +kernel
theorem dX7_shareNextYear_50 : decode cX7_shareNextYear 50 = .ok (.getfield 108, 3) := by decide +kernel
theorem dX7_shareNextYear_53 : decode cX7_shareNextYear 53 = .ok (.iload_n 2, 1) := by decide +kernel
theorem dX7_shareNextYear_54 : decode cX7_shareNextYear 54 = .ok (.iaload, 1) := by decide +kernel
theorem dX7_shareNextYear_55 : decode cX7_shareNextYear 55 = .ok (.imul, 1) := by decide +kernel
theorem dX7_shareNextYear_56 : decode cX7_shareNextYear 56 = .ok (.bipush 100, 2) := by decide +kernel
theorem dX7_shareNextYear_58 : decode cX7_shareNextYear 58 = .ok (.idiv, 1) := by decide +kernel
theorem dX7_shareNextYear_59 : decode cX7_shareNextYear 59 = .ok (.istore 5, 2) := by decide +kernel
theorem dX7_shareNextYear_61 : decode cX7_shareNextYear 61 = .ok (.iload 5, 2) := by decide +kernel
theorem dX7_shareNextYear_63 : decode cX7_shareNextYear 63 = .ok (.aload_n 0, 1) := by decide +kernel
theorem dX7_shareNextYear_64 : decode cX7_shareNextYear 64 = .ok (.iload_n 1, 1) := by decide +kernel
theorem dX7_shareNextYear_65 : decode cX7_shareNextYear 65 = .ok (.iload_n 2, 1) := by decide +kernel
theorem dX7_shareNextYear_66 : decode cX7_shareNextYear 66 = .ok (.invokestatic 123, 3) := by decide +kernel
theorem dX7_shareNextYear_69 : decode cX7_shareNextYear 69 = .ok (.invokevirtual 158, 3) := by decide +kernel
theorem dX7_shareNextYear_72 : decode cX7_shareNextYear 72 = .ok (.lload_n 3, 1) := by decide +kernel
theorem dX7_shareNextYear_73 : decode cX7_shareNextYear 73 = .ok (.invokestatic 154, 3) := by decide +kernel
theorem dX7_shareNextYear_76 : decode cX7_shareNextYear 76 = .ok (.ireturn, 1) := by decide +kernel
theorem dX7_countsNextYear_0 : decode cX7_countsNextYear 0 = .ok (.aload_n 0, 1) := by decide +kernel
theorem dX7_countsNextYear_1 : decode cX7_countsNextYear 1 = .ok (.getfield 35, 3) := by decide +kernel
theorem dX7_countsNextYear_4 : decode cX7_countsNextYear 4 = .ok (.getfield 161, 3) := by decide +kernel
theorem dX7_countsNextYear_7 : decode cX7_countsNextYear 7 = .ok (.iload_n 1, 1) := by decide +kernel
theorem dX7_countsNextYear_8 : decode cX7_countsNextYear 8 = .ok (.iaload, 1) := by decide +kernel
theorem dX7_countsNextYear_9 : decode cX7_countsNextYear 9 = .ok (.istore_n 2, 1) := by decide +kernel
theorem dX7_countsNextYear_10 : decode cX7_countsNextYear 10 = .ok (.aload_n 0, 1) := by decide +kernel
theorem dX7_countsNextYear_11 : decode cX7_countsNextYear 11 = .ok (.getfield 12, 3) := by decide +kernel
theorem dX7_countsNextYear_14 : decode cX7_countsNextYear 14 = .ok (.iload_n 1, 1) := by decide +kernel
theorem dX7_countsNextYear_15 : decode cX7_countsNextYear 15 = .ok (.iconst 0, 1) := by decide +kernel
theorem dX7_countsNextYear_16 : decode cX7_countsNextYear 16 = .ok (.invokevirtual 164, 3) := by decide +kernel
theorem dX7_countsNextYear_19 : decode cX7_countsNextYear 19 = .ok (.istore_n 3, 1) := by decide +kernel
theorem dX7_countsNextYear_20 : decode cX7_countsNextYear 20 = .ok (.aload_n 0, 1) := by decide +kernel
theorem dX7_countsNextYear_21 : decode cX7_countsNextYear 21 = .ok (.getfield 12, 3) := by decide +kernel
theorem dX7_countsNextYear_24 : decode cX7_countsNextYear 24 = .ok (.iload_n 1, 1) := by decide +kernel
theorem dX7_countsNextYear_25 : decode cX7_countsNextYear 25 = .ok (.iconst 1, 1) := by decide +kernel
theorem dX7_countsNextYear_26 : decode cX7_countsNextYear 26 = .ok (.invokevirtual 164, 3) := by decide +kernel
theorem dX7_countsNextYear_29 : decode cX7_countsNextYear 29 = .ok (.istore 4, 2) := by decide +kernel
theorem dX7_countsNextYear_31 : decode cX7_countsNextYear 31 = .ok (.iload_n 2, 1) := by decide +kernel
theorem dX7_countsNextYear_32 : decode cX7_countsNextYear 32 = .ok (.ifCond .le 7, 3) := by decide +kernel
theorem dX7_countsNextYear_35 : decode cX7_countsNextYear 35 = .ok (.iconst 1, 1) := by decide +kernel
theorem dX7_countsNextYear_36 : decode cX7_countsNextYear 36 = .ok (.goto 4, 3) := by decide +kernel
theorem dX7_countsNextYear_39 : decode cX7_countsNextYear 39 = .ok (.iconst 0, 1) := by decide +kernel
theorem dX7_countsNextYear_40 : decode cX7_countsNextYear 40 = .ok (.iload_n 3, 1) := by decide +kernel
theorem dX7_countsNextYear_41 : decode cX7_countsNextYear 41 = .ok (.ifCond .le 7, 3) := by decide +kernel
theorem dX7_countsNextYear_44 : decode cX7_countsNextYear 44 = .ok (.iconst 1, 1) := by decide +kernel
theorem dX7_countsNextYear_45 : decode cX7_countsNextYear 45 = .ok (.goto 4, 3) := by decide +kernel
theorem dX7_countsNextYear_48 : decode cX7_countsNextYear 48 = .ok (.iconst 0, 1) := by decide +kernel
theorem dX7_countsNextYear_49 : decode cX7_countsNextYear 49 = .ok (.iadd, 1) := by decide +kernel
theorem dX7_countsNextYear_50 : decode cX7_countsNextYear 50 = .ok (.iload 4, 2) := by decide +kernel
theorem dX7_countsNextYear_52 : decode cX7_countsNextYear 52 = .ok (.ifCond .le 7, 3) := by decide +kernel
theorem dX7_countsNextYear_55 : decode cX7_countsNextYear 55 = .ok (.iconst 1, 1) := by decide +kernel
theorem dX7_countsNextYear_56 : decode cX7_countsNextYear 56 = .ok (.goto 4, 3) := by decide +kernel
theorem dX7_countsNextYear_59 : decode cX7_countsNextYear 59 = .ok (.iconst 0, 1) := by decide +kernel
theorem dX7_countsNextYear_60 : decode cX7_countsNextYear 60 = .ok (.iadd, 1) := by decide +kernel
theorem dX7_countsNextYear_61 : decode cX7_countsNextYear 61 = .ok (.istore 5, 2) := by decide +kernel
theorem dX7_countsNextYear_63 : decode cX7_countsNextYear 63 = .ok (.iload 5, 2) := by decide +kernel
theorem dX7_countsNextYear_65 : decode cX7_countsNextYear 65 = .ok (.aload_n 0, 1) := by decide +kernel
theorem dX7_countsNextYear_66 : decode cX7_countsNextYear 66 = .ok (.getfield 12, 3) := by decide +kernel
theorem dX7_countsNextYear_69 : decode cX7_countsNextYear 69 = .ok (.getfield 132, 3) := by decide +kernel
theorem dX7_countsNextYear_72 : decode cX7_countsNextYear 72 = .ok (.iconst 5, 1) := by decide +kernel
theorem dX7_countsNextYear_73 : decode cX7_countsNextYear 73 = .ok (.iaload, 1) := by decide +kernel
theorem dX7_countsNextYear_74 : decode cX7_countsNextYear 74 = .ok (.if_icmp .lt 12, 3) := by decide +kernel
theorem dX7_countsNextYear_77 : decode cX7_countsNextYear 77 = .ok (.iload_n 2, 1) := by decide +kernel
theorem dX7_countsNextYear_78 : decode cX7_countsNextYear 78 = .ok (.iload_n 3, 1) := by decide +kernel
theorem dX7_countsNextYear_79 : decode cX7_countsNextYear 79 = .ok (.iadd, 1) := by decide +kernel
theorem dX7_countsNextYear_80 : decode cX7_countsNextYear 80 = .ok (.iload 4, 2) := by decide +kernel
theorem dX7_countsNextYear_82 : decode cX7_countsNextYear 82 = .ok (.iadd, 1) := by decide +kernel
theorem dX7_countsNextYear_83 : decode cX7_countsNextYear 83 = .ok (.goto 4, 3) := by decide +kernel
theorem dX7_countsNextYear_86 : decode cX7_countsNextYear 86 = .ok (.iconst 0, 1) := by decide +kernel
theorem dX7_countsNextYear_87 : decode cX7_countsNextYear 87 = .ok (.ireturn, 1) := by decide +kernel
theorem dX7_leftIn_0 : decode cX7_leftIn 0 = .ok (.aload_n 0, 1) := by decide +kernel
theorem dX7_leftIn_1 : decode cX7_leftIn 1 = .ok (.getfield 28, 3) := by decide +kernel
theorem dX7_leftIn_4 : decode cX7_leftIn 4 = .ok (.iload_n 1, 1) := by decide +kernel
theorem dX7_leftIn_5 : decode cX7_leftIn 5 = .ok (.iconst 3, 1) := by decide +kernel
theorem dX7_leftIn_6 : decode cX7_leftIn 6 = .ok (.invokevirtual 167, 3) := by decide +kernel
theorem dX7_leftIn_9 : decode cX7_leftIn 9 = .ok (.istore_n 2, 1) := by decide +kernel
theorem dX7_leftIn_10 : decode cX7_leftIn 10 = .ok (.iconst 0, 1) := by decide +kernel
theorem dX7_leftIn_11 : decode cX7_leftIn 11 = .ok (.istore_n 3, 1) := by decide +kernel
theorem dX7_leftIn_12 : decode cX7_leftIn 12 = .ok (.iload_n 3, 1) := by decide +kernel
theorem dX7_leftIn_13 : decode cX7_leftIn 13 = .ok (.aload_n 0, 1) := by decide +kernel
theorem dX7_leftIn_14 : decode cX7_leftIn 14 = .ok (.getfield 12, 3) := by decide +kernel
theorem dX7_leftIn_17 : decode cX7_leftIn 17 = .ok (.getfield 94, 3) := by decide +kernel
theorem dX7_leftIn_20 : decode cX7_leftIn 20 = .ok (.if_icmp .ge 25, 3) := by decide +kernel
theorem dX7_leftIn_23 : decode cX7_leftIn 23 = .ok (.iload_n 2, 1) := by decide +kernel
theorem dX7_leftIn_24 : decode cX7_leftIn 24 = .ok (.aload_n 0, 1) := by decide +kernel
theorem dX7_leftIn_25 : decode cX7_leftIn 25 = .ok (.getfield 28, 3) := by decide +kernel
theorem dX7_leftIn_28 : decode cX7_leftIn 28 = .ok (.getfield 145, 3) := by decide +kernel
theorem dX7_leftIn_31 : decode cX7_leftIn 31 = .ok (.iload_n 3, 1) := by decide +kernel
theorem dX7_leftIn_32 : decode cX7_leftIn 32 = .ok (.iload_n 1, 1) := by decide +kernel
theorem dX7_leftIn_33 : decode cX7_leftIn 33 = .ok (.invokestatic 123, 3) := by decide +kernel
theorem dX7_leftIn_36 : decode cX7_leftIn 36 = .ok (.iaload, 1) := by decide +kernel
theorem dX7_leftIn_37 : decode cX7_leftIn 37 = .ok (.iadd, 1) := by decide +kernel
theorem dX7_leftIn_38 : decode cX7_leftIn 38 = .ok (.istore_n 2, 1) := by decide +kernel
theorem dX7_leftIn_39 : decode cX7_leftIn 39 = .ok (.iinc 3 1, 3) := by decide +kernel
theorem dX7_leftIn_42 : decode cX7_leftIn 42 = .ok (.goto (-30), 3) := by decide +kernel
theorem dX7_leftIn_45 : decode cX7_leftIn 45 = .ok (.iload_n 2, 1) := by decide +kernel
theorem dX7_leftIn_46 : decode cX7_leftIn 46 = .ok (.ireturn, 1) := by decide +kernel
theorem dX7_passDay_0 : decode cX7_passDay 0 = .ok (.iconst 0, 1) := by decide +kernel
theorem dX7_passDay_1 : decode cX7_passDay 1 = .ok (.istore_n 1, 1) := by decide +kernel
theorem dX7_passDay_2 : decode cX7_passDay 2 = .ok (.iconst 0, 1) := by decide +kernel
theorem dX7_passDay_3 : decode cX7_passDay 3 = .ok (.istore_n 2, 1) := by decide +kernel
theorem dX7_passDay_4 : decode cX7_passDay 4 = .ok (.iload_n 2, 1) := by decide +kernel
theorem dX7_passDay_5 : decode cX7_passDay 5 = .ok (.aload_n 0, 1) := by decide +kernel
theorem dX7_passDay_6 : decode cX7_passDay 6 = .ok (.getfield 21, 3) := by decide +kernel
theorem dX7_passDay_9 : decode cX7_passDay 9 = .ok (.getfield 70, 3) := by decide +kernel
theorem dX7_passDay_12 : decode cX7_passDay 12 = .ok (.if_icmp .ge 45, 3) := by decide +kernel
theorem dX7_passDay_15 : decode cX7_passDay 15 = .ok (.aload_n 0, 1) := by decide +kernel
theorem dX7_passDay_16 : decode cX7_passDay 16 = .ok (.getfield 21, 3) := by decide +kernel
theorem dX7_passDay_19 : decode cX7_passDay 19 = .ok (.iload_n 2, 1) := by decide +kernel
theorem dX7_passDay_20 : decode cX7_passDay 20 = .ok (.invokevirtual 170, 3) := by decide +kernel
theorem dX7_passDay_23 : decode cX7_passDay 23 = .ok (.ifCond .eq 28, 3) := by decide +kernel
theorem dX7_passDay_26 : decode cX7_passDay 26 = .ok (.aload_n 0, 1) := by decide +kernel
theorem dX7_passDay_27 : decode cX7_passDay 27 = .ok (.getfield 21, 3) := by decide +kernel
theorem dX7_passDay_30 : decode cX7_passDay 30 = .ok (.getfield 173, 3) := by decide +kernel
theorem dX7_passDay_33 : decode cX7_passDay 33 = .ok (.iload_n 2, 1) := by decide +kernel
theorem dX7_passDay_34 : decode cX7_passDay 34 = .ok (.iaload, 1) := by decide +kernel
theorem dX7_passDay_35 : decode cX7_passDay 35 = .ok (.aload_n 0, 1) := by decide +kernel
theorem dX7_passDay_36 : decode cX7_passDay 36 = .ok (.getfield 66, 3) := by decide +kernel
theorem dX7_passDay_39 : decode cX7_passDay 39 = .ok (.if_icmp .ne 12, 3) := by decide +kernel
theorem dX7_passDay_42 : decode cX7_passDay 42 = .ok (.iload_n 1, 1) := by decide +kernel
theorem dX7_passDay_43 : decode cX7_passDay 43 = .ok (.aload_n 0, 1) := by decide +kernel
theorem dX7_passDay_44 : decode cX7_passDay 44 = .ok (.iload_n 2, 1) := by decide +kernel
theorem dX7_passDay_45 : decode cX7_passDay 45 = .ok (.iconst 3, 1) := by decide +kernel
theorem dX7_passDay_46 : decode cX7_passDay 46 = .ok (.invokevirtual 176, 3) := by decide +kernel
theorem dX7_passDay_49 : decode cX7_passDay 49 = .ok (.iadd, 1) := by decide +kernel
theorem dX7_passDay_50 : decode cX7_passDay 50 = .ok (.istore_n 1, 1) := by decide +kernel
theorem dX7_passDay_51 : decode cX7_passDay 51 = .ok (.iinc 2 1, 3) := by decide +kernel
theorem dX7_passDay_54 : decode cX7_passDay 54 = .ok (.goto (-50), 3) := by decide +kernel
theorem dX7_passDay_57 : decode cX7_passDay 57 = .ok (.aload_n 0, 1) := by decide +kernel
theorem dX7_passDay_58 : decode cX7_passDay 58 = .ok (.getfield 43, 3) := by decide +kernel
theorem dX7_passDay_61 : decode cX7_passDay 61 = .ok (.iconst 3, 1) := by decide +kernel
theorem dX7_passDay_62 : decode cX7_passDay 62 = .ok (.dup2, 1) := by decide +kernel
theorem dX7_passDay_63 : decode cX7_passDay 63 = .ok (.iaload, 1) := by decide +kernel
theorem dX7_passDay_64 : decode cX7_passDay 64 = .ok (.iload_n 1, 1) := by decide +kernel
theorem dX7_passDay_65 : decode cX7_passDay 65 = .ok (.iadd, 1) := by decide +kernel
theorem dX7_passDay_66 : decode cX7_passDay 66 = .ok (.iastore, 1) := by decide +kernel
theorem dX7_passDay_67 : decode cX7_passDay 67 = .ok (.aload_n 0, 1) := by decide +kernel
theorem dX7_passDay_68 : decode cX7_passDay 68 = .ok (.dup, 1) := by decide +kernel
theorem dX7_passDay_69 : decode cX7_passDay 69 = .ok (.getfield 66, 3) := by decide +kernel
theorem dX7_passDay_72 : decode cX7_passDay 72 = .ok (.iconst 1, 1) := by decide +kernel
theorem dX7_passDay_73 : decode cX7_passDay 73 = .ok (.iadd, 1) := by decide +kernel
theorem dX7_passDay_74 : decode cX7_passDay 74 = .ok (.putfield 66, 3) := by decide +kernel
theorem dX7_passDay_77 : decode cX7_passDay 77 = .ok (.aload_n 0, 1) := by decide +kernel
theorem dX7_passDay_78 : decode cX7_passDay 78 = .ok (.getfield 66, 3) := by decide +kernel
theorem dX7_passDay_81 : decode cX7_passDay 81 = .ok (.sipush 360, 3) := by decide +kernel
theorem dX7_passDay_84 : decode cX7_passDay 84 = .ok (.irem, 1) := by decide +kernel
theorem dX7_passDay_85 : decode cX7_passDay 85 = .ok (.ifCond .ne 7, 3) := by decide +kernel
theorem dX7_passDay_88 : decode cX7_passDay 88 = .ok (.aload_n 0, 1) := by decide +kernel
theorem dX7_passDay_89 : decode cX7_passDay 89 = .ok (.invokevirtual 179, 3) := by decide +kernel
theorem dX7_passDay_92 : decode cX7_passDay 92 = .ok (.aload_n 0, 1) := by decide +kernel
theorem dX7_passDay_93 : decode cX7_passDay 93 = .ok (.getfield 66, 3) := by decide +kernel
theorem dX7_passDay_96 : decode cX7_passDay 96 = .ok (.bipush 90, 2) := by decide +kernel
theorem dX7_passDay_98 : decode cX7_passDay 98 = .ok (.irem, 1) := by decide +kernel
theorem dX7_passDay_99 : decode cX7_passDay 99 = .ok (.ifCond .ne 14, 3) := by decide +kernel
theorem dX7_passDay_102 : decode cX7_passDay 102 = .ok (.aload_n 0, 1) := by decide +kernel
theorem dX7_passDay_103 : decode cX7_passDay 103 = .ok (.getfield 28, 3) := by decide +kernel
theorem dX7_passDay_106 : decode cX7_passDay 106 = .ok (.invokevirtual 182, 3) := by decide +kernel
theorem dX7_passDay_109 : decode cX7_passDay 109 = .ok (.aload_n 0, 1) := by decide +kernel
theorem dX7_passDay_110 : decode cX7_passDay 110 = .ok (.invokevirtual 88, 3) := by decide +kernel
theorem dX7_passDay_113 : decode cX7_passDay 113 = .ok (.iload_n 1, 1) := by decide +kernel
theorem dX7_passDay_114 : decode cX7_passDay 114 = .ok (.ireturn, 1) := by decide +kernel
theorem dX7_turnYear_0 : decode cX7_turnYear 0 = .ok (.iconst 0, 1) := by decide +kernel
theorem dX7_turnYear_1 : decode cX7_turnYear 1 = .ok (.istore_n 1, 1) := by decide +kernel
theorem dX7_turnYear_2 : decode cX7_turnYear 2 = .ok (.iload_n 1, 1) := by decide +kernel
theorem dX7_turnYear_3 : decode cX7_turnYear 3 = .ok (.bipush 32, 2) := by decide +kernel
theorem dX7_turnYear_5 : decode cX7_turnYear 5 = .ok (.if_icmp .ge 26, 3) := by decide +kernel
theorem dX7_turnYear_8 : decode cX7_turnYear 8 = .ok (.aload_n 0, 1) := by decide +kernel
theorem dX7_turnYear_9 : decode cX7_turnYear 9 = .ok (.getfield 12, 3) := by decide +kernel
theorem dX7_turnYear_12 : decode cX7_turnYear 12 = .ok (.iload_n 1, 1) := by decide +kernel
theorem dX7_turnYear_13 : decode cX7_turnYear 13 = .ok (.aload_n 0, 1) := by decide +kernel
theorem dX7_turnYear_14 : decode cX7_turnYear 14 = .ok (.getfield 35, 3) := by decide +kernel
theorem dX7_turnYear_17 : decode cX7_turnYear 17 = .ok (.getfield 161, 3) := by decide +kernel
theorem dX7_turnYear_20 : decode cX7_turnYear 20 = .ok (.iload_n 1, 1) := by decide +kernel
theorem dX7_turnYear_21 : decode cX7_turnYear 21 = .ok (.iaload, 1) := by decide +kernel
theorem dX7_turnYear_22 : decode cX7_turnYear 22 = .ok (.invokevirtual 185, 3) := by decide +kernel
theorem dX7_turnYear_25 : decode cX7_turnYear 25 = .ok (.iinc 1 1, 3) := by decide +kernel
theorem dX7_turnYear_28 : decode cX7_turnYear 28 = .ok (.goto (-26), 3) := by decide +kernel
theorem dX7_turnYear_31 : decode cX7_turnYear 31 = .ok (.aload_n 0, 1) := by decide +kernel
theorem dX7_turnYear_32 : decode cX7_turnYear 32 = .ok (.getfield 35, 3) := by decide +kernel
theorem dX7_turnYear_35 : decode cX7_turnYear 35 = .ok (.invokevirtual 76, 3) := by decide +kernel
theorem dX7_turnYear_38 : decode cX7_turnYear 38 = .ok (.return_, 1) := by decide +kernel
theorem dX7_isOfThisPeriod_0 : decode cX7_isOfThisPeriod 0 = .ok (.aload_n 0, 1) := by decide +kernel
theorem dX7_isOfThisPeriod_1 : decode cX7_isOfThisPeriod 1 = .ok (.getfield 21, 3) := by decide +kernel
theorem dX7_isOfThisPeriod_4 : decode cX7_isOfThisPeriod 4 = .ok (.getfield 189, 3) := by decide +kernel
theorem dX7_isOfThisPeriod_7 : decode cX7_isOfThisPeriod 7 = .ok (.iload_n 1, 1) := by decide +kernel
theorem dX7_isOfThisPeriod_8 : decode cX7_isOfThisPeriod 8 = .ok (.iaload, 1) := by decide +kernel
theorem dX7_isOfThisPeriod_9 : decode cX7_isOfThisPeriod 9 = .ok (.bipush 90, 2) := by decide +kernel
theorem dX7_isOfThisPeriod_11 : decode cX7_isOfThisPeriod 11 = .ok (.idiv, 1) := by decide +kernel
theorem dX7_isOfThisPeriod_12 : decode cX7_isOfThisPeriod 12 = .ok (.aload_n 0, 1) := by decide +kernel
theorem dX7_isOfThisPeriod_13 : decode cX7_isOfThisPeriod 13 = .ok (.getfield 66, 3) := by decide +kernel
theorem dX7_isOfThisPeriod_16 : decode cX7_isOfThisPeriod 16 = .ok (.bipush 90, 2) := by decide +kernel
theorem dX7_isOfThisPeriod_18 : decode cX7_isOfThisPeriod 18 = .ok (.idiv, 1) := by decide +kernel
theorem dX7_isOfThisPeriod_19 : decode cX7_isOfThisPeriod 19 = .ok (.if_icmp .ne 7, 3) := by decide +kernel
theorem dX7_isOfThisPeriod_22 : decode cX7_isOfThisPeriod 22 = .ok (.iconst 1, 1) := by decide +kernel
theorem dX7_isOfThisPeriod_23 : decode cX7_isOfThisPeriod 23 = .ok (.goto 4, 3) := by decide +kernel
theorem dX7_isOfThisPeriod_26 : decode cX7_isOfThisPeriod 26 = .ok (.iconst 0, 1) := by decide +kernel
theorem dX7_isOfThisPeriod_27 : decode cX7_isOfThisPeriod 27 = .ok (.ireturn, 1) := by decide +kernel
theorem dX7_offerNow_0 : decode cX7_offerNow 0 = .ok (.aload_n 0, 1) := by decide +kernel
theorem dX7_offerNow_1 : decode cX7_offerNow 1 = .ok (.iload_n 1, 1) := by decide +kernel
theorem dX7_offerNow_2 : decode cX7_offerNow 2 = .ok (.iload_n 2, 1) := by decide +kernel
theorem dX7_offerNow_3 : decode cX7_offerNow 3 = .ok (.iload_n 3, 1) := by decide +kernel
theorem dX7_offerNow_4 : decode cX7_offerNow 4 = .ok (.aload_n 0, 1) := by decide +kernel
theorem dX7_offerNow_5 : decode cX7_offerNow 5 = .ok (.getfield 28, 3) := by decide +kernel
theorem dX7_offerNow_8 : decode cX7_offerNow 8 = .ok (.iload_n 2, 1) := by decide +kernel
theorem dX7_offerNow_9 : decode cX7_offerNow 9 = .ok (.iconst 3, 1) := by decide +kernel
theorem dX7_offerNow_10 : decode cX7_offerNow 10 = .ok (.invokevirtual 167, 3) := by decide +kernel
theorem dX7_offerNow_13 : decode cX7_offerNow 13 = .ok (.aload_n 0, 1) := by decide +kernel
theorem dX7_offerNow_14 : decode cX7_offerNow 14 = .ok (.getfield 21, 3) := by decide +kernel
theorem dX7_offerNow_17 : decode cX7_offerNow 17 = .ok (.getfield 70, 3) := by decide +kernel
theorem dX7_offerNow_20 : decode cX7_offerNow 20 = .ok (.invokevirtual 192, 3) := by decide +kernel
theorem dX7_offerNow_23 : decode cX7_offerNow 23 = .ok (.ireturn, 1) := by decide +kernel
theorem dX7_offerOf_0 : decode cX7_offerOf 0 = .ok (.iload 5, 2) := by decide +kernel
theorem dX7_offerOf_2 : decode cX7_offerOf 2 = .ok (.bipush 60, 2) := by decide +kernel
theorem dX7_offerOf_4 : decode cX7_offerOf 4 = .ok (.if_icmp .lt 6, 3) := by decide +kernel
theorem dX7_offerOf_7 : decode cX7_offerOf 7 = .ok (.bipush (-2), 2) := by decide +kernel
theorem dX7_offerOf_9 : decode cX7_offerOf 9 = .ok (.ireturn, 1) := by decide +kernel
theorem dX7_offerOf_10 : decode cX7_offerOf 10 = .ok (.iload_n 1, 1) := by decide +kernel
theorem dX7_offerOf_11 : decode cX7_offerOf 11 = .ok (.iload_n 2, 1) := by decide +kernel
theorem dX7_offerOf_12 : decode cX7_offerOf 12 = .ok (.invokestatic 123, 3) := by decide +kernel
theorem dX7_offerOf_15 : decode cX7_offerOf 15 = .ok (.istore 6, 2) := by decide +kernel
theorem dX7_offerOf_17 : decode cX7_offerOf 17 = .ok (.aload_n 0, 1) := by decide +kernel
theorem dX7_offerOf_18 : decode cX7_offerOf 18 = .ok (.getfield 28, 3) := by decide +kernel
theorem dX7_offerOf_21 : decode cX7_offerOf 21 = .ok (.getfield 145, 3) := by decide +kernel
theorem dX7_offerOf_24 : decode cX7_offerOf 24 = .ok (.iload 6, 2) := by decide +kernel
theorem dX7_offerOf_26 : decode cX7_offerOf 26 = .ok (.iaload, 1) := by decide +kernel
theorem dX7_offerOf_27 : decode cX7_offerOf 27 = .ok (.istore 7, 2) := by decide +kernel
theorem dX7_offerOf_29 : decode cX7_offerOf 29 = .ok (.aload_n 0, 1) := by decide +kernel
theorem dX7_offerOf_30 : decode cX7_offerOf 30 = .ok (.getfield 28, 3) := by decide +kernel
theorem dX7_offerOf_33 : decode cX7_offerOf 33 = .ok (.iload 6, 2) := by decide +kernel
theorem dX7_offerOf_35 : decode cX7_offerOf 35 = .ok (.invokevirtual 148, 3) := by decide +kernel
theorem dX7_offerOf_38 : decode cX7_offerOf 38 = .ok (.ifCond .ne 51, 3) := by decide +kernel
theorem dX7_offerOf_41 : decode cX7_offerOf 41 = .ok (.iload_n 3, 1) := by decide +kernel
theorem dX7_offerOf_42 : decode cX7_offerOf 42 = .ok (.aload_n 0, 1) := by decide +kernel
theorem dX7_offerOf_43 : decode cX7_offerOf 43 = .ok (.getfield 12, 3) := by decide +kernel
theorem dX7_offerOf_46 : decode cX7_offerOf 46 = .ok (.getfield 132, 3) := by decide +kernel
theorem dX7_offerOf_49 : decode cX7_offerOf 49 = .ok (.iconst 1, 1) := by decide +kernel
theorem dX7_offerOf_50 : decode cX7_offerOf 50 = .ok (.iaload, 1) := by decide +kernel
theorem dX7_offerOf_51 : decode cX7_offerOf 51 = .ok (.if_icmp .le 6, 3) := by decide +kernel
theorem dX7_offerOf_54 : decode cX7_offerOf 54 = .ok (.bipush (-3), 2) := by decide +kernel
theorem dX7_offerOf_56 : decode cX7_offerOf 56 = .ok (.ireturn, 1) := by decide +kernel
theorem dX7_offerOf_57 : decode cX7_offerOf 57 = .ok (.aload_n 0, 1) := by decide +kernel
theorem dX7_offerOf_58 : decode cX7_offerOf 58 = .ok (.getfield 28, 3) := by decide +kernel
theorem dX7_offerOf_61 : decode cX7_offerOf 61 = .ok (.getfield 135, 3) := by decide +kernel
theorem dX7_offerOf_64 : decode cX7_offerOf 64 = .ok (.iload 6, 2) := by decide +kernel
theorem dX7_offerOf_66 : decode cX7_offerOf 66 = .ok (.iaload, 1) := by decide +kernel
theorem dX7_offerOf_67 : decode cX7_offerOf 67 = .ok (.ifCond .le 6, 3) := by decide +kernel
theorem dX7_offerOf_70 : decode cX7_offerOf 70 = .ok (.bipush (-4), 2) := by decide +kernel
theorem dX7_offerOf_72 : decode cX7_offerOf 72 = .ok (.ireturn, 1) := by decide +kernel
theorem dX7_offerOf_73 : decode cX7_offerOf 73 = .ok (.aload_n 0, 1) := by decide +kernel
theorem dX7_offerOf_74 : decode cX7_offerOf 74 = .ok (.iload_n 1, 1) := by decide +kernel
theorem dX7_offerOf_75 : decode cX7_offerOf 75 = .ok (.iload_n 2, 1) := by decide +kernel
theorem dX7_offerOf_76 : decode cX7_offerOf 76 = .ok (.invokevirtual 196, 3) := by decide +kernel
theorem dX7_offerOf_79 : decode cX7_offerOf 79 = .ok (.ifCond .eq 6, 3) := by decide +kernel
theorem dX7_offerOf_82 : decode cX7_offerOf 82 = .ok (.bipush (-5), 2) := by decide +kernel
theorem dX7_offerOf_84 : decode cX7_offerOf 84 = .ok (.ireturn, 1) := by decide +kernel
theorem dX7_offerOf_85 : decode cX7_offerOf 85 = .ok (.iload 4, 2) := by decide +kernel
theorem dX7_offerOf_87 : decode cX7_offerOf 87 = .ok (.istore 7, 2) := by decide +kernel
theorem dX7_offerOf_89 : decode cX7_offerOf 89 = .ok (.iload 7, 2) := by decide +kernel
theorem dX7_offerOf_91 : decode cX7_offerOf 91 = .ok (.ifCond .le 12, 3) := by decide +kernel
theorem dX7_offerOf_94 : decode cX7_offerOf 94 = .ok (.iload_n 3, 1) := by decide +kernel
theorem dX7_offerOf_95 : decode cX7_offerOf 95 = .ok (.iload 7, 2) := by decide +kernel
theorem dX7_offerOf_97 : decode cX7_offerOf 97 = .ok (.invokestatic 200, 3) := by decide +kernel
theorem dX7_offerOf_100 : decode cX7_offerOf 100 = .ok (.goto 5, 3) := by decide +kernel
theorem dX7_offerOf_103 : decode cX7_offerOf 103 = .ok (.bipush (-6), 2) := by decide +kernel
theorem dX7_offerOf_105 : decode cX7_offerOf 105 = .ok (.ireturn, 1) := by decide +kernel
theorem dX7_grant_0 : decode cX7_grant 0 = .ok (.iload_n 1, 1) := by decide +kernel
theorem dX7_grant_1 : decode cX7_grant 1 = .ok (.iload_n 2, 1) := by decide +kernel
theorem dX7_grant_2 : decode cX7_grant 2 = .ok (.invokestatic 123, 3) := by decide +kernel
theorem dX7_grant_5 : decode cX7_grant 5 = .ok (.istore 4, 2) := by decide +kernel
theorem dX7_grant_7 : decode cX7_grant 7 = .ok (.aload_n 0, 1) := by decide +kernel
theorem dX7_grant_8 : decode cX7_grant 8 = .ok (.getfield 28, 3) := by decide +kernel
theorem dX7_grant_11 : decode cX7_grant 11 = .ok (.iload 4, 2) := by decide +kernel
theorem dX7_grant_13 : decode cX7_grant 13 = .ok (.invokevirtual 148, 3) := by decide +kernel
theorem dX7_grant_16 : decode cX7_grant 16 = .ok (.ifCond .eq 20, 3) := by decide +kernel
theorem dX7_grant_19 : decode cX7_grant 19 = .ok (.aload_n 0, 1) := by decide +kernel
theorem dX7_grant_20 : decode cX7_grant 20 = .ok (.getfield 28, 3) := by decide +kernel
theorem dX7_grant_23 : decode cX7_grant 23 = .ok (.getfield 145, 3) := by decide +kernel
theorem dX7_grant_26 : decode cX7_grant 26 = .ok (.iload 4, 2) := by decide +kernel
theorem dX7_grant_28 : decode cX7_grant 28 = .ok (.dup2, 1) := by decide +kernel
theorem dX7_grant_29 : decode cX7_grant 29 = .ok (.iaload, 1) := by decide +kernel
theorem dX7_grant_30 : decode cX7_grant 30 = .ok (.iload_n 3, 1) := by decide +kernel
theorem dX7_grant_31 : decode cX7_grant 31 = .ok (.isub, 1) := by decide +kernel
theorem dX7_grant_32 : decode cX7_grant 32 = .ok (.iastore, 1) := by decide +kernel
theorem dX7_grant_33 : decode cX7_grant 33 = .ok (.goto 14, 3) := by decide +kernel
theorem dX7_grant_36 : decode cX7_grant 36 = .ok (.aload_n 0, 1) := by decide +kernel
theorem dX7_grant_37 : decode cX7_grant 37 = .ok (.getfield 28, 3) := by decide +kernel
theorem dX7_grant_40 : decode cX7_grant 40 = .ok (.iload_n 2, 1) := by decide +kernel
theorem dX7_grant_41 : decode cX7_grant 41 = .ok (.iconst 3, 1) := by decide +kernel
theorem dX7_grant_42 : decode cX7_grant 42 = .ok (.iload_n 3, 1) := by decide +kernel
theorem dX7_grant_43 : decode cX7_grant 43 = .ok (.ineg, 1) := by decide +kernel
theorem dX7_grant_44 : decode cX7_grant 44 = .ok (.invokevirtual 115, 3) := by decide +kernel
theorem dX7_grant_47 : decode cX7_grant 47 = .ok (.aload_n 0, 1) := by decide +kernel
theorem dX7_grant_48 : decode cX7_grant 48 = .ok (.getfield 28, 3) := by decide +kernel
theorem dX7_grant_51 : decode cX7_grant 51 = .ok (.getfield 135, 3) := by decide +kernel
theorem dX7_grant_54 : decode cX7_grant 54 = .ok (.iload 4, 2) := by decide +kernel
theorem dX7_grant_56 : decode cX7_grant 56 = .ok (.dup2, 1) := by decide +kernel
theorem dX7_grant_57 : decode cX7_grant 57 = .ok (.iaload, 1) := by decide +kernel
theorem dX7_grant_58 : decode cX7_grant 58 = .ok (.iload_n 3, 1) := by decide +kernel
theorem dX7_grant_59 : decode cX7_grant 59 = .ok (.iadd, 1) := by decide +kernel
theorem dX7_grant_60 : decode cX7_grant 60 = .ok (.iastore, 1) := by decide +kernel
theorem dX7_grant_61 : decode cX7_grant 61 = .ok (.aload_n 0, 1) := by decide +kernel
theorem dX7_grant_62 : decode cX7_grant 62 = .ok (.getfield 28, 3) := by decide +kernel
theorem dX7_grant_65 : decode cX7_grant 65 = .ok (.iload_n 2, 1) := by decide +kernel
theorem dX7_grant_66 : decode cX7_grant 66 = .ok (.iconst 4, 1) := by decide +kernel
theorem dX7_grant_67 : decode cX7_grant 67 = .ok (.iload_n 3, 1) := by decide +kernel
theorem dX7_grant_68 : decode cX7_grant 68 = .ok (.invokevirtual 115, 3) := by decide +kernel
theorem dX7_grant_71 : decode cX7_grant 71 = .ok (.aload_n 0, 1) := by decide +kernel
theorem dX7_grant_72 : decode cX7_grant 72 = .ok (.getfield 43, 3) := by decide +kernel
theorem dX7_grant_75 : decode cX7_grant 75 = .ok (.iconst 0, 1) := by decide +kernel
theorem dX7_grant_76 : decode cX7_grant 76 = .ok (.dup2, 1) := by decide +kernel
theorem dX7_grant_77 : decode cX7_grant 77 = .ok (.iaload, 1) := by decide +kernel
theorem dX7_grant_78 : decode cX7_grant 78 = .ok (.iload_n 3, 1) := by decide +kernel
theorem dX7_grant_79 : decode cX7_grant 79 = .ok (.iadd, 1) := by decide +kernel
theorem dX7_grant_80 : decode cX7_grant 80 = .ok (.iastore, 1) := by decide +kernel
theorem dX7_grant_81 : decode cX7_grant 81 = .ok (.aload_n 0, 1) := by decide +kernel
theorem dX7_grant_82 : decode cX7_grant 82 = .ok (.getfield 66, 3) := by decide +kernel
theorem dX7_grant_85 : decode cX7_grant 85 = .ok (.sipush 360, 3) := by decide +kernel
theorem dX7_grant_88 : decode cX7_grant 88 = .ok (.idiv, 1) := by decide +kernel
theorem dX7_grant_89 : decode cX7_grant 89 = .ok (.sipush 360, 3) := by decide +kernel
theorem dX7_grant_92 : decode cX7_grant 92 = .ok (.imul, 1) := by decide +kernel
theorem dX7_grant_93 : decode cX7_grant 93 = .ok (.sipush 360, 3) := by decide +kernel
theorem dX7_grant_96 : decode cX7_grant 96 = .ok (.iadd, 1) := by decide +kernel
theorem dX7_grant_97 : decode cX7_grant 97 = .ok (.iconst 1, 1) := by decide +kernel
theorem dX7_grant_98 : decode cX7_grant 98 = .ok (.isub, 1) := by decide +kernel
theorem dX7_grant_99 : decode cX7_grant 99 = .ok (.istore 5, 2) := by decide +kernel
theorem dX7_grant_101 : decode cX7_grant 101 = .ok (.aload_n 0, 1) := by decide +kernel
theorem dX7_grant_102 : decode cX7_grant 102 = .ok (.getfield 66, 3) := by decide +kernel
theorem dX7_grant_105 : decode cX7_grant 105 = .ok (.aload_n 0, 1) := by decide +kernel
theorem dX7_grant_106 : decode cX7_grant 106 = .ok (.getfield 12, 3) := by decide +kernel
theorem dX7_grant_109 : decode cX7_grant 109 = .ok (.getfield 132, 3) := by decide +kernel
theorem dX7_grant_112 : decode cX7_grant 112 = .ok (.iconst 2, 1) := by decide +kernel
theorem dX7_grant_113 : decode cX7_grant 113 = .ok (.iaload, 1) := by decide +kernel
theorem dX7_grant_114 : decode cX7_grant 114 = .ok (.iadd, 1) := by decide +kernel
theorem dX7_grant_115 : decode cX7_grant 115 = .ok (.iconst 1, 1) := by decide +kernel
theorem dX7_grant_116 : decode cX7_grant 116 = .ok (.isub, 1) := by decide +kernel
theorem dX7_grant_117 : decode cX7_grant 117 = .ok (.iload 5, 2) := by decide +kernel
theorem dX7_grant_119 : decode cX7_grant 119 = .ok (.invokestatic 200, 3) := by decide +kernel
theorem dX7_grant_122 : decode cX7_grant 122 = .ok (.istore 6, 2) := by decide +kernel
theorem dX7_grant_124 : decode cX7_grant 124 = .ok (.aload_n 0, 1) := by decide +kernel
theorem dX7_grant_125 : decode cX7_grant 125 = .ok (.getfield 21, 3) := by decide +kernel
theorem dX7_grant_128 : decode cX7_grant 128 = .ok (.iload_n 1, 1) := by decide +kernel
theorem dX7_grant_129 : decode cX7_grant 129 = .ok (.iload_n 2, 1) := by decide +kernel
theorem dX7_grant_130 : decode cX7_grant 130 = .ok (.iload_n 3, 1) := by decide +kernel
theorem dX7_grant_131 : decode cX7_grant 131 = .ok (.aload_n 0, 1) := by decide +kernel
theorem dX7_grant_132 : decode cX7_grant 132 = .ok (.getfield 66, 3) := by decide +kernel
theorem dX7_grant_135 : decode cX7_grant 135 = .ok (.iload 6, 2) := by decide +kernel
theorem dX7_grant_137 : decode cX7_grant 137 = .ok (.iconst (-1), 1) := by decide +kernel
theorem dX7_grant_138 : decode cX7_grant 138 = .ok (.invokevirtual 205, 3) := by decide +kernel
theorem dX7_grant_141 : decode cX7_grant 141 = .ok (.ireturn, 1) := by decide +kernel
theorem dX7_importBy_0 : decode cX7_importBy 0 = .ok (.aload_n 0, 1) := by decide +kernel
theorem dX7_importBy_1 : decode cX7_importBy 1 = .ok (.getfield 21, 3) := by decide +kernel
theorem dX7_importBy_4 : decode cX7_importBy 4 = .ok (.getfield 209, 3) := by decide +kernel
theorem dX7_importBy_7 : decode cX7_importBy 7 = .ok (.iload_n 1, 1) := by decide +kernel
theorem dX7_importBy_8 : decode cX7_importBy 8 = .ok (.iaload, 1) := by decide +kernel
theorem dX7_importBy_9 : decode cX7_importBy 9 = .ok (.istore_n 3, 1) := by decide +kernel
theorem dX7_importBy_10 : decode cX7_importBy 10 = .ok (.aload_n 0, 1) := by decide +kernel
theorem dX7_importBy_11 : decode cX7_importBy 11 = .ok (.getfield 21, 3) := by decide +kernel
theorem dX7_importBy_14 : decode cX7_importBy 14 = .ok (.getfield 212, 3) := by decide +kernel
theorem dX7_importBy_17 : decode cX7_importBy 17 = .ok (.iload_n 1, 1) := by decide +kernel
theorem dX7_importBy_18 : decode cX7_importBy 18 = .ok (.iaload, 1) := by decide +kernel
theorem dX7_importBy_19 : decode cX7_importBy 19 = .ok (.istore 4, 2) := by decide +kernel
theorem dX7_importBy_21 : decode cX7_importBy 21 = .ok (.aload_n 0, 1) := by decide +kernel
theorem dX7_importBy_22 : decode cX7_importBy 22 = .ok (.getfield 66, 3) := by decide +kernel
theorem dX7_importBy_25 : decode cX7_importBy 25 = .ok (.sipush 360, 3) := by decide +kernel
theorem dX7_importBy_28 : decode cX7_importBy 28 = .ok (.irem, 1) := by decide +kernel
theorem dX7_importBy_29 : decode cX7_importBy 29 = .ok (.bipush 30, 2) := by decide +kernel
theorem dX7_importBy_31 : decode cX7_importBy 31 = .ok (.idiv, 1) := by decide +kernel
theorem dX7_importBy_32 : decode cX7_importBy 32 = .ok (.istore 5, 2) := by decide +kernel
theorem dX7_importBy_34 : decode cX7_importBy 34 = .ok (.aload_n 0, 1) := by decide +kernel
theorem dX7_importBy_35 : decode cX7_importBy 35 = .ok (.getfield 21, 3) := by decide +kernel
theorem dX7_importBy_38 : decode cX7_importBy 38 = .ok (.getfield 215, 3) := by decide +kernel
theorem dX7_importBy_41 : decode cX7_importBy 41 = .ok (.iload_n 1, 1) := by decide +kernel
theorem dX7_importBy_42 : decode cX7_importBy 42 = .ok (.dup2, 1) := by decide +kernel
theorem dX7_importBy_43 : decode cX7_importBy 43 = .ok (.iaload, 1) := by decide +kernel
theorem dX7_importBy_44 : decode cX7_importBy 44 = .ok (.iload_n 2, 1) := by decide +kernel
theorem dX7_importBy_45 : decode cX7_importBy 45 = .ok (.iadd, 1) := by decide +kernel
theorem dX7_importBy_46 : decode cX7_importBy 46 = .ok (.iastore, 1) := by decide +kernel
theorem dX7_importBy_47 : decode cX7_importBy 47 = .ok (.aload_n 0, 1) := by decide +kernel
theorem dX7_importBy_48 : decode cX7_importBy 48 = .ok (.getfield 21, 3) := by decide +kernel
theorem dX7_importBy_51 : decode cX7_importBy 51 = .ok (.getfield 218, 3) := by decide +kernel
theorem dX7_importBy_54 : decode cX7_importBy 54 = .ok (.iload_n 1, 1) := by decide +kernel
theorem dX7_importBy_55 : decode cX7_importBy 55 = .ok (.dup2, 1) := by decide +kernel
theorem dX7_importBy_56 : decode cX7_importBy 56 = .ok (.iaload, 1) := by decide +kernel
theorem dX7_importBy_57 : decode cX7_importBy 57 = .ok (.iload_n 2, 1) := by decide +kernel
theorem dX7_importBy_58 : decode cX7_importBy 58 = .ok (.aload_n 0, 1) := by decide +kernel
theorem dX7_importBy_59 : decode cX7_importBy 59 = .ok (.getfield 66, 3) := by decide +kernel
theorem dX7_importBy_62 : decode cX7_importBy 62 = .ok (.aload_n 0, 1) := by decide +kernel
theorem dX7_importBy_63 : decode cX7_importBy 63 = .ok (.getfield 21, 3) := by decide +kernel
theorem dX7_importBy_66 : decode cX7_importBy 66 = .ok (.getfield 189, 3) := by decide +kernel
theorem dX7_importBy_69 : decode cX7_importBy 69 = .ok (.iload_n 1, 1) := by decide +kernel
theorem dX7_importBy_70 : decode cX7_importBy 70 = .ok (.iaload, 1) := by decide +kernel
theorem dX7_importBy_71 : decode cX7_importBy 71 = .ok (.isub, 1) := by decide +kernel
theorem dX7_importBy_72 : decode cX7_importBy 72 = .ok (.imul, 1) := by decide +kernel
theorem dX7_importBy_73 : decode cX7_importBy 73 = .ok (.iadd, 1) := by decide +kernel
theorem dX7_importBy_74 : decode cX7_importBy 74 = .ok (.iastore, 1) := by decide +kernel
theorem dX7_importBy_75 : decode cX7_importBy 75 = .ok (.aload_n 0, 1) := by decide +kernel
theorem dX7_importBy_76 : decode cX7_importBy 76 = .ok (.getfield 21, 3) := by decide +kernel
theorem dX7_importBy_79 : decode cX7_importBy 79 = .ok (.iload_n 1, 1) := by decide +kernel
theorem dX7_importBy_80 : decode cX7_importBy 80 = .ok (.aload_n 0, 1) := by decide +kernel
theorem dX7_importBy_81 : decode cX7_importBy 81 = .ok (.getfield 66, 3) := by decide +kernel
theorem dX7_importBy_84 : decode cX7_importBy 84 = .ok (.invokevirtual 221, 3) := by decide +kernel
theorem dX7_importBy_87 : decode cX7_importBy 87 = .ok (.aload_n 0, 1) := by decide +kernel
theorem dX7_importBy_88 : decode cX7_importBy 88 = .ok (.getfield 35, 3) := by decide +kernel
theorem dX7_importBy_91 : decode cX7_importBy 91 = .ok (.getfield 161, 3) := by decide +kernel
theorem dX7_importBy_94 : decode cX7_importBy 94 = .ok (.iload_n 3, 1) := by decide +kernel
theorem dX7_importBy_95 : decode cX7_importBy 95 = .ok (.iload 4, 2) := by decide +kernel
theorem dX7_importBy_97 : decode cX7_importBy 97 = .ok (.invokestatic 123, 3) := by decide +kernel
theorem dX7_importBy_100 : decode cX7_importBy 100 = .ok (.dup2, 1) := by decide +kernel
theorem dX7_importBy_101 : decode cX7_importBy 101 = .ok (.iaload, 1) := by decide +kernel
theorem dX7_importBy_102 : decode cX7_importBy 102 = .ok (.iload_n 2, 1) := by decide +kernel
theorem dX7_importBy_103 : decode cX7_importBy 103 = .ok (.iadd, 1) := by decide +kernel
theorem dX7_importBy_104 : decode cX7_importBy 104 = .ok (.iastore, 1) := by decide +kernel
theorem dX7_importBy_105 : decode cX7_importBy 105 = .ok (.aload_n 0, 1) := by decide +kernel
theorem dX7_importBy_106 : decode cX7_importBy 106 = .ok (.getfield 35, 3) := by decide +kernel
theorem dX7_importBy_109 : decode cX7_importBy 109 = .ok (.getfield 224, 3) := by decide +kernel
theorem dX7_importBy_112 : decode cX7_importBy 112 = .ok (.iload_n 3, 1) := by decide +kernel
theorem dX7_importBy_113 : decode cX7_importBy 113 = .ok (.bipush 12, 2) := by decide +kernel
theorem dX7_importBy_115 : decode cX7_importBy 115 = .ok (.imul, 1) := by decide +kernel
theorem dX7_importBy_116 : decode cX7_importBy 116 = .ok (.iload 5, 2) := by decide +kernel
theorem dX7_importBy_118 : decode cX7_importBy 118 = .ok (.iadd, 1) := by decide +kernel
theorem dX7_importBy_119 : decode cX7_importBy 119 = .ok (.dup2, 1) := by decide +kernel
theorem dX7_importBy_120 : decode cX7_importBy 120 = .ok (.iaload, 1) := by decide +kernel
theorem dX7_importBy_121 : decode cX7_importBy 121 = .ok (.iload_n 2, 1) := by decide +kernel
theorem dX7_importBy_122 : decode cX7_importBy 122 = .ok (.iadd, 1) := by decide +kernel
theorem dX7_importBy_123 : decode cX7_importBy 123 = .ok (.iastore, 1) := by decide +kernel
theorem dX7_importBy_124 : decode cX7_importBy 124 = .ok (.aload_n 0, 1) := by decide +kernel
theorem dX7_importBy_125 : decode cX7_importBy 125 = .ok (.getfield 35, 3) := by decide +kernel
theorem dX7_importBy_128 : decode cX7_importBy 128 = .ok (.getfield 227, 3) := by decide +kernel
theorem dX7_importBy_131 : decode cX7_importBy 131 = .ok (.iload 4, 2) := by decide +kernel
theorem dX7_importBy_133 : decode cX7_importBy 133 = .ok (.bipush 12, 2) := by decide +kernel
theorem dX7_importBy_135 : decode cX7_importBy 135 = .ok (.imul, 1) := by decide +kernel
theorem dX7_importBy_136 : decode cX7_importBy 136 = .ok (.iload 5, 2) := by decide +kernel
theorem dX7_importBy_138 : decode cX7_importBy 138 = .ok (.iadd, 1) := by decide +kernel
theorem dX7_importBy_139 : decode cX7_importBy 139 = .ok (.dup2, 1) := by decide +kernel
theorem dX7_importBy_140 : decode cX7_importBy 140 = .ok (.iaload, 1) := by decide +kernel
theorem dX7_importBy_141 : decode cX7_importBy 141 = .ok (.iload_n 2, 1) := by decide +kernel
theorem dX7_importBy_142 : decode cX7_importBy 142 = .ok (.iadd, 1) := by decide +kernel
theorem dX7_importBy_143 : decode cX7_importBy 143 = .ok (.iastore, 1) := by decide +kernel
theorem dX7_importBy_144 : decode cX7_importBy 144 = .ok (.aload_n 0, 1) := by decide +kernel
theorem dX7_importBy_145 : decode cX7_importBy 145 = .ok (.getfield 28, 3) := by decide +kernel
theorem dX7_importBy_148 : decode cX7_importBy 148 = .ok (.iload 4, 2) := by decide +kernel
theorem dX7_importBy_150 : decode cX7_importBy 150 = .ok (.iconst 5, 1) := by decide +kernel
theorem dX7_importBy_151 : decode cX7_importBy 151 = .ok (.iload_n 2, 1) := by decide +kernel
theorem dX7_importBy_152 : decode cX7_importBy 152 = .ok (.invokevirtual 115, 3) := by decide +kernel
theorem dX7_importBy_155 : decode cX7_importBy 155 = .ok (.aload_n 0, 1) := by decide +kernel
theorem dX7_importBy_156 : decode cX7_importBy 156 = .ok (.getfield 43, 3) := by decide +kernel
theorem dX7_importBy_159 : decode cX7_importBy 159 = .ok (.iconst 1, 1) := by decide +kernel
theorem dX7_importBy_160 : decode cX7_importBy 160 = .ok (.dup2, 1) := by decide +kernel
theorem dX7_importBy_161 : decode cX7_importBy 161 = .ok (.iaload, 1) := by decide +kernel
theorem dX7_importBy_162 : decode cX7_importBy 162 = .ok (.iload_n 2, 1) := by decide +kernel
theorem dX7_importBy_163 : decode cX7_importBy 163 = .ok (.iadd, 1) := by decide +kernel
theorem dX7_importBy_164 : decode cX7_importBy 164 = .ok (.iastore, 1) := by decide +kernel
theorem dX7_importBy_165 : decode cX7_importBy 165 = .ok (.return_, 1) := by decide +kernel
theorem dX7_importWithout_0 : decode cX7_importWithout 0 = .ok (.iload_n 3, 1) := by decide +kernel
theorem dX7_importWithout_1 : decode cX7_importWithout 1 = .ok (.iload 4, 2) := by decide +kernel
theorem dX7_importWithout_3 : decode cX7_importWithout 3 = .ok (.imul, 1) := by decide +kernel
theorem dX7_importWithout_4 : decode cX7_importWithout 4 = .ok (.i2d, 1) := by decide +kernel
theorem dX7_importWithout_5 : decode cX7_importWithout 5 = .ok (.aload_n 0, 1) := by decide +kernel
theorem dX7_importWithout_6 : decode cX7_importWithout 6 = .ok (.getfield 12, 3) := by decide +kernel
theorem dX7_importWithout_9 : decode cX7_importWithout 9 = .ok (.getfield 132, 3) := by decide +kernel
theorem dX7_importWithout_12 : decode cX7_importWithout 12 = .ok (.iconst 4, 1) := by decide +kernel
theorem dX7_importWithout_13 : decode cX7_importWithout 13 = .ok (.iaload, 1) := by decide +kernel
theorem dX7_importWithout_14 : decode cX7_importWithout 14 = .ok (.i2d, 1) := by decide +kernel
theorem dX7_importWithout_15 : decode cX7_importWithout 15 = .ok (.dmul, 1) := by decide +kernel
theorem dX7_importWithout_16 : decode cX7_importWithout 16 = .ok (.ldc2_w 230, 3) := by decide +kernel
theorem dX7_importWithout_19 : decode cX7_importWithout 19 = .ok (.ddiv, 1) := by decide +kernel
theorem dX7_importWithout_20 : decode cX7_importWithout 20 = .ok (.dstore 5, 2) := by decide +kernel
theorem dX7_importWithout_22 : decode cX7_importWithout 22 = .ok (.aload_n 0, 1) := by decide +kernel
theorem dX7_importWithout_23 : decode cX7_importWithout 23 = .ok (.getfield 39, 3) := by decide +kernel
theorem dX7_importWithout_26 : decode cX7_importWithout 26 = .ok (.iload_n 1, 1) := by decide +kernel
theorem dX7_importWithout_27 : decode cX7_importWithout 27 = .ok (.aload_n 0, 1) := by decide +kernel
theorem dX7_importWithout_28 : decode cX7_importWithout 28 = .ok (.getfield 39, 3) := by decide +kernel
theorem dX7_importWithout_31 : decode cX7_importWithout 31 = .ok (.iload_n 1, 1) := by decide +kernel
theorem dX7_importWithout_32 : decode cX7_importWithout 32 = .ok (.daload, 1) := by decide +kernel
theorem dX7_importWithout_33 : decode cX7_importWithout 33 = .ok (.dload 5, 2) := by decide +kernel
theorem dX7_importWithout_35 : decode cX7_importWithout 35 = .ok (.dadd, 1) := by decide +kernel
theorem dX7_importWithout_36 : decode cX7_importWithout 36 = .ok (.dastore, 1) := by decide +kernel
theorem dX7_importWithout_37 : decode cX7_importWithout 37 = .ok (.aload_n 0, 1) := by decide +kernel
theorem dX7_importWithout_38 : decode cX7_importWithout 38 = .ok (.getfield 35, 3) := by decide +kernel
theorem dX7_importWithout_41 : decode cX7_importWithout 41 = .ok (.getfield 161, 3) := by decide +kernel
theorem dX7_importWithout_44 : decode cX7_importWithout 44 = .ok (.iload_n 1, 1) := by decide +kernel
theorem dX7_importWithout_45 : decode cX7_importWithout 45 = .ok (.iload_n 2, 1) := by decide +kernel
theorem dX7_importWithout_46 : decode cX7_importWithout 46 = .ok (.invokestatic 123, 3) := by decide +kernel
theorem dX7_importWithout_49 : decode cX7_importWithout 49 = .ok (.dup2, 1) := by decide +kernel
theorem dX7_importWithout_50 : decode cX7_importWithout 50 = .ok (.iaload, 1) := by decide +kernel
theorem dX7_importWithout_51 : decode cX7_importWithout 51 = .ok (.iload_n 3, 1) := by decide +kernel
theorem dX7_importWithout_52 : decode cX7_importWithout 52 = .ok (.iadd, 1) := by decide +kernel
theorem dX7_importWithout_53 : decode cX7_importWithout 53 = .ok (.iastore, 1) := by decide +kernel
theorem dX7_importWithout_54 : decode cX7_importWithout 54 = .ok (.aload_n 0, 1) := by decide +kernel
theorem dX7_importWithout_55 : decode cX7_importWithout 55 = .ok (.getfield 28, 3) := by decide +kernel
theorem dX7_importWithout_58 : decode cX7_importWithout 58 = .ok (.iload_n 2, 1) := by decide +kernel
theorem dX7_importWithout_59 : decode cX7_importWithout 59 = .ok (.bipush 6, 2) := by decide +kernel
theorem dX7_importWithout_61 : decode cX7_importWithout 61 = .ok (.iload_n 3, 1) := by decide +kernel
theorem dX7_importWithout_62 : decode cX7_importWithout 62 = .ok (.invokevirtual 115, 3) := by decide +kernel
theorem dX7_importWithout_65 : decode cX7_importWithout 65 = .ok (.aload_n 0, 1) := by decide +kernel
theorem dX7_importWithout_66 : decode cX7_importWithout 66 = .ok (.getfield 43, 3) := by decide +kernel
theorem dX7_importWithout_69 : decode cX7_importWithout 69 = .ok (.iconst 4, 1) := by decide +kernel
theorem dX7_importWithout_70 : decode cX7_importWithout 70 = .ok (.dup2, 1) := by decide +kernel
theorem dX7_importWithout_71 : decode cX7_importWithout 71 = .ok (.iaload, 1) := by decide +kernel
theorem dX7_importWithout_72 : decode cX7_importWithout 72 = .ok (.iload_n 3, 1) := by decide +kernel
theorem dX7_importWithout_73 : decode cX7_importWithout 73 = .ok (.iadd, 1) := by decide +kernel
theorem dX7_importWithout_74 : decode cX7_importWithout 74 = .ok (.iastore, 1) := by decide +kernel
theorem dX7_importWithout_75 : decode cX7_importWithout 75 = .ok (.dload 5, 2) := by decide +kernel
theorem dX7_importWithout_77 : decode cX7_importWithout 77 = .ok (.dreturn, 1) := by decide +kernel
theorem dX7_closeIntoPool_0 : decode cX7_closeIntoPool 0 = .ok (.aload_n 0, 1) := by decide +kernel
theorem dX7_closeIntoPool_1 : decode cX7_closeIntoPool 1 = .ok (.getfield 21, 3) := by decide +kernel
theorem dX7_closeIntoPool_4 : decode cX7_closeIntoPool 4 = .ok (.iload_n 1, 1) := by decide +kernel
theorem dX7_closeIntoPool_5 : decode cX7_closeIntoPool 5 = .ok (.invokevirtual 232, 3) := by decide +kernel
theorem dX7_closeIntoPool_8 : decode cX7_closeIntoPool 8 = .ok (.istore_n 3, 1) := by decide +kernel
theorem dX7_closeIntoPool_9 : decode cX7_closeIntoPool 9 = .ok (.aload_n 0, 1) := by decide +kernel
theorem dX7_closeIntoPool_10 : decode cX7_closeIntoPool 10 = .ok (.getfield 21, 3) := by decide +kernel
theorem dX7_closeIntoPool_13 : decode cX7_closeIntoPool 13 = .ok (.getfield 212, 3) := by decide +kernel
theorem dX7_closeIntoPool_16 : decode cX7_closeIntoPool 16 = .ok (.iload_n 1, 1) := by decide +kernel
theorem dX7_closeIntoPool_17 : decode cX7_closeIntoPool 17 = .ok (.iaload, 1) := by decide +kernel
theorem dX7_closeIntoPool_18 : decode cX7_closeIntoPool 18 = .ok (.istore 4, 2) := by decide +kernel
theorem dX7_closeIntoPool_20 : decode cX7_closeIntoPool 20 = .ok (.aload_n 0, 1) := by decide +kernel
theorem dX7_closeIntoPool_21 : decode cX7_closeIntoPool 21 = .ok (.getfield 21, 3) := by decide +kernel
theorem dX7_closeIntoPool_24 : decode cX7_closeIntoPool 24 = .ok (.iload_n 1, 1) := by decide +kernel
theorem dX7_closeIntoPool_25 : decode cX7_closeIntoPool 25 = .ok (.iload_n 2, 1) := by decide +kernel
theorem dX7_closeIntoPool_26 : decode cX7_closeIntoPool 26 = .ok (.aload_n 0, 1) := by decide +kernel
theorem dX7_closeIntoPool_27 : decode cX7_closeIntoPool 27 = .ok (.getfield 66, 3) := by decide +kernel
theorem dX7_closeIntoPool_30 : decode cX7_closeIntoPool 30 = .ok (.invokevirtual 235, 3) := by decide +kernel
theorem dX7_closeIntoPool_33 : decode cX7_closeIntoPool 33 = .ok (.aload_n 0, 1) := by decide +kernel
theorem dX7_closeIntoPool_34 : decode cX7_closeIntoPool 34 = .ok (.getfield 28, 3) := by decide +kernel
theorem dX7_closeIntoPool_37 : decode cX7_closeIntoPool 37 = .ok (.iload 4, 2) := by decide +kernel
theorem dX7_closeIntoPool_39 : decode cX7_closeIntoPool 39 = .ok (.iconst 3, 1) := by decide +kernel
theorem dX7_closeIntoPool_40 : decode cX7_closeIntoPool 40 = .ok (.iload_n 3, 1) := by decide +kernel
theorem dX7_closeIntoPool_41 : decode cX7_closeIntoPool 41 = .ok (.invokevirtual 115, 3) := by decide +kernel
theorem dX7_closeIntoPool_44 : decode cX7_closeIntoPool 44 = .ok (.aload_n 0, 1) := by decide +kernel
theorem dX7_closeIntoPool_45 : decode cX7_closeIntoPool 45 = .ok (.iload_n 1, 1) := by decide +kernel
theorem dX7_closeIntoPool_46 : decode cX7_closeIntoPool 46 = .ok (.invokevirtual 238, 3) := by decide +kernel
theorem dX7_closeIntoPool_49 : decode cX7_closeIntoPool 49 = .ok (.ifCond .ne 15, 3) := by decide +kernel
theorem dX7_closeIntoPool_52 : decode cX7_closeIntoPool 52 = .ok (.aload_n 0, 1) := by decide +kernel
theorem dX7_closeIntoPool_53 : decode cX7_closeIntoPool 53 = .ok (.getfield 28, 3) := by decide +kernel
theorem dX7_closeIntoPool_56 : decode cX7_closeIntoPool 56 = .ok (.iload 4, 2) := by decide +kernel
theorem dX7_closeIntoPool_58 : decode cX7_closeIntoPool 58 = .ok (.bipush 7, 2) := by decide +kernel
theorem dX7_closeIntoPool_60 : decode cX7_closeIntoPool 60 = .ok (.iload_n 3, 1) := by decide +kernel
theorem dX7_closeIntoPool_61 : decode cX7_closeIntoPool 61 = .ok (.invokevirtual 115, 3) := by decide +kernel
theorem dX7_closeIntoPool_64 : decode cX7_closeIntoPool 64 = .ok (.iload_n 3, 1) := by decide +kernel
theorem dX7_closeIntoPool_65 : decode cX7_closeIntoPool 65 = .ok (.ireturn, 1) := by decide +kernel
theorem dX7_isIdle_0 : decode cX7_isIdle 0 = .ok (.aload_n 0, 1) := by decide +kernel
theorem dX7_isIdle_1 : decode cX7_isIdle 1 = .ok (.iload_n 1, 1) := by decide +kernel
theorem dX7_isIdle_2 : decode cX7_isIdle 2 = .ok (.invokevirtual 241, 3) := by decide +kernel
theorem dX7_isIdle_5 : decode cX7_isIdle 5 = .ok (.ifCond .le 7, 3) := by decide +kernel
theorem dX7_isIdle_8 : decode cX7_isIdle 8 = .ok (.iconst 1, 1) := by decide +kernel
theorem dX7_isIdle_9 : decode cX7_isIdle 9 = .ok (.goto 4, 3) := by decide +kernel
theorem dX7_isIdle_12 : decode cX7_isIdle 12 = .ok (.iconst 0, 1) := by decide +kernel
theorem dX7_isIdle_13 : decode cX7_isIdle 13 = .ok (.ireturn, 1) := by decide +kernel
theorem dX7_neededFor_0 : decode cX7_neededFor 0 = .ok (.aload_n 0, 1) := by decide +kernel
theorem dX7_neededFor_1 : decode cX7_neededFor 1 = .ok (.getfield 12, 3) := by decide +kernel
theorem dX7_neededFor_4 : decode cX7_neededFor 4 = .ok (.getfield 132, 3) := by decide +kernel
theorem dX7_neededFor_7 : decode cX7_neededFor 7 = .ok (.iconst 3, 1) := by decide +kernel
theorem dX7_neededFor_8 : decode cX7_neededFor 8 = .ok (.iaload, 1) := by decide +kernel
theorem dX7_neededFor_9 : decode cX7_neededFor 9 = .ok (.aload_n 0, 1) := by decide +kernel
theorem dX7_neededFor_10 : decode cX7_neededFor 10 = .ok (.getfield 21, 3) := by decide +kernel
theorem dX7_neededFor_13 : decode cX7_neededFor 13 = .ok (.getfield 244, 3) := by decide +kernel
theorem dX7_neededFor_16 : decode cX7_neededFor 16 = .ok (.iload_n 1, 1) := by decide +kernel
theorem dX7_neededFor_17 : decode cX7_neededFor 17 = .ok (.iaload, 1) := by decide +kernel
theorem dX7_neededFor_18 : decode cX7_neededFor 18 = .ok (.imul, 1) := by decide +kernel
theorem dX7_neededFor_19 : decode cX7_neededFor 19 = .ok (.bipush 100, 2) := by decide +kernel
theorem dX7_neededFor_21 : decode cX7_neededFor 21 = .ok (.aload_n 0, 1) := by decide +kernel
theorem dX7_neededFor_22 : decode cX7_neededFor 22 = .ok (.getfield 21, 3) := by decide +kernel
theorem dX7_neededFor_25 : decode cX7_neededFor 25 = .ok (.getfield 215, 3) := by decide +kernel
theorem dX7_neededFor_28 : decode cX7_neededFor 28 = .ok (.iload_n 1, 1) := by decide +kernel
theorem dX7_neededFor_29 : decode cX7_neededFor 29 = .ok (.iaload, 1) := by decide +kernel
theorem dX7_neededFor_30 : decode cX7_neededFor 30 = .ok (.imul, 1) := by decide +kernel
theorem dX7_neededFor_31 : decode cX7_neededFor 31 = .ok (.isub, 1) := by decide +kernel
theorem dX7_neededFor_32 : decode cX7_neededFor 32 = .ok (.istore_n 2, 1) := by decide +kernel
theorem dX7_neededFor_33 : decode cX7_neededFor 33 = .ok (.iload_n 2, 1) := by decide +kernel
theorem dX7_neededFor_34 : decode cX7_neededFor 34 = .ok (.ifCond .le 13, 3) := by decide +kernel
theorem dX7_neededFor_37 : decode cX7_neededFor 37 = .ok (.iload_n 2, 1) := by decide +kernel
theorem dX7_neededFor_38 : decode cX7_neededFor 38 = .ok (.bipush 99, 2) := by decide +kernel
theorem dX7_neededFor_40 : decode cX7_neededFor 40 = .ok (.iadd, 1) := by decide +kernel
theorem dX7_neededFor_41 : decode cX7_neededFor 41 = .ok (.bipush 100, 2) := by decide +kernel
theorem dX7_neededFor_43 : decode cX7_neededFor 43 = .ok (.idiv, 1) := by decide +kernel
theorem dX7_neededFor_44 : decode cX7_neededFor 44 = .ok (.goto 4, 3) := by decide +kernel
theorem dX7_neededFor_47 : decode cX7_neededFor 47 = .ok (.iconst 0, 1) := by decide +kernel
theorem dX7_neededFor_48 : decode cX7_neededFor 48 = .ok (.ireturn, 1) := by decide +kernel
theorem dX7_isKeptOut_0 : decode cX7_isKeptOut 0 = .ok (.aload_n 0, 1) := by decide +kernel
theorem dX7_isKeptOut_1 : decode cX7_isKeptOut 1 = .ok (.getfield 21, 3) := by decide +kernel
theorem dX7_isKeptOut_4 : decode cX7_isKeptOut 4 = .ok (.iload_n 1, 1) := by decide +kernel
theorem dX7_isKeptOut_5 : decode cX7_isKeptOut 5 = .ok (.iload_n 2, 1) := by decide +kernel
theorem dX7_isKeptOut_6 : decode cX7_isKeptOut 6 = .ok (.invokevirtual 247, 3) := by decide +kernel
theorem dX7_isKeptOut_9 : decode cX7_isKeptOut 9 = .ok (.istore_n 3, 1) := by decide +kernel
theorem dX7_isKeptOut_10 : decode cX7_isKeptOut 10 = .ok (.iload_n 3, 1) := by decide +kernel
theorem dX7_isKeptOut_11 : decode cX7_isKeptOut 11 = .ok (.iconst (-1), 1) := by decide +kernel
theorem dX7_isKeptOut_12 : decode cX7_isKeptOut 12 = .ok (.if_icmp .eq 15, 3) := by decide +kernel
theorem dX7_isKeptOut_15 : decode cX7_isKeptOut 15 = .ok (.aload_n 0, 1) := by decide +kernel
theorem dX7_isKeptOut_16 : decode cX7_isKeptOut 16 = .ok (.iload_n 3, 1) := by decide +kernel
theorem dX7_isKeptOut_17 : decode cX7_isKeptOut 17 = .ok (.invokevirtual 250, 3) := by decide +kernel
theorem dX7_isKeptOut_20 : decode cX7_isKeptOut 20 = .ok (.ifCond .eq 7, 3) := by decide +kernel
theorem dX7_isKeptOut_23 : decode cX7_isKeptOut 23 = .ok (.iconst 1, 1) := by decide +kernel
theorem dX7_isKeptOut_24 : decode cX7_isKeptOut 24 = .ok (.goto 4, 3) := by decide +kernel
theorem dX7_isKeptOut_27 : decode cX7_isKeptOut 27 = .ok (.iconst 0, 1) := by decide +kernel
theorem dX7_isKeptOut_28 : decode cX7_isKeptOut 28 = .ok (.ireturn, 1) := by decide +kernel
theorem dX7_takenIn_0 : decode cX7_takenIn 0 = .ok (.iconst 0, 1) := by decide +kernel
theorem dX7_takenIn_1 : decode cX7_takenIn 1 = .ok (.istore_n 2, 1) := by decide +kernel
theorem dX7_takenIn_2 : decode cX7_takenIn 2 = .ok (.iconst 0, 1) := by decide +kernel
theorem dX7_takenIn_3 : decode cX7_takenIn 3 = .ok (.istore_n 3, 1) := by decide +kernel
theorem dX7_takenIn_4 : decode cX7_takenIn 4 = .ok (.iload_n 3, 1) := by decide +kernel
theorem dX7_takenIn_5 : decode cX7_takenIn 5 = .ok (.aload_n 0, 1) := by decide +kernel
theorem dX7_takenIn_6 : decode cX7_takenIn 6 = .ok (.getfield 21, 3) := by decide +kernel
theorem dX7_takenIn_9 : decode cX7_takenIn 9 = .ok (.getfield 70, 3) := by decide +kernel
theorem dX7_takenIn_12 : decode cX7_takenIn 12 = .ok (.if_icmp .ge 65, 3) := by decide +kernel
theorem dX7_takenIn_15 : decode cX7_takenIn 15 = .ok (.aload_n 0, 1) := by decide +kernel
theorem dX7_takenIn_16 : decode cX7_takenIn 16 = .ok (.getfield 21, 3) := by decide +kernel
theorem dX7_takenIn_19 : decode cX7_takenIn 19 = .ok (.getfield 212, 3) := by decide +kernel
theorem dX7_takenIn_22 : decode cX7_takenIn 22 = .ok (.iload_n 3, 1) := by decide +kernel
theorem dX7_takenIn_23 : decode cX7_takenIn 23 = .ok (.iaload, 1) := by decide +kernel
theorem dX7_takenIn_24 : decode cX7_takenIn 24 = .ok (.iload_n 1, 1) := by decide +kernel
theorem dX7_takenIn_25 : decode cX7_takenIn 25 = .ok (.if_icmp .ne 46, 3) := by decide +kernel
theorem dX7_takenIn_28 : decode cX7_takenIn 28 = .ok (.aload_n 0, 1) := by decide +kernel
theorem dX7_takenIn_29 : decode cX7_takenIn 29 = .ok (.iload_n 3, 1) := by decide +kernel
theorem dX7_takenIn_30 : decode cX7_takenIn 30 = .ok (.invokevirtual 238, 3) := by decide +kernel
theorem dX7_takenIn_33 : decode cX7_takenIn 33 = .ok (.ifCond .eq 38, 3) := by decide +kernel
theorem dX7_takenIn_36 : decode cX7_takenIn 36 = .ok (.iload_n 2, 1) := by decide +kernel
theorem dX7_takenIn_37 : decode cX7_takenIn 37 = .ok (.aload_n 0, 1) := by decide +kernel
theorem dX7_takenIn_38 : decode cX7_takenIn 38 = .ok (.getfield 21, 3) := by decide +kernel
theorem dX7_takenIn_41 : decode cX7_takenIn 41 = .ok (.iload_n 3, 1) := by decide +kernel
theorem dX7_takenIn_42 : decode cX7_takenIn 42 = .ok (.invokevirtual 170, 3) := by decide +kernel
theorem dX7_takenIn_45 : decode cX7_takenIn 45 = .ok (.ifCond .eq 15, 3) := by decide +kernel
theorem dX7_takenIn_48 : decode cX7_takenIn 48 = .ok (.aload_n 0, 1) := by decide +kernel
theorem dX7_takenIn_49 : decode cX7_takenIn 49 = .ok (.getfield 21, 3) := by decide +kernel
theorem dX7_takenIn_52 : decode cX7_takenIn 52 = .ok (.getfield 244, 3) := by decide +kernel
theorem dX7_takenIn_55 : decode cX7_takenIn 55 = .ok (.iload_n 3, 1) := by decide +kernel
theorem dX7_takenIn_56 : decode cX7_takenIn 56 = .ok (.iaload, 1) := by decide +kernel
theorem dX7_takenIn_57 : decode cX7_takenIn 57 = .ok (.goto 12, 3) := by decide +kernel
theorem dX7_takenIn_60 : decode cX7_takenIn 60 = .ok (.aload_n 0, 1) := by decide +kernel
theorem dX7_takenIn_61 : decode cX7_takenIn 61 = .ok (.getfield 21, 3) := by decide +kernel
theorem dX7_takenIn_64 : decode cX7_takenIn 64 = .ok (.getfield 215, 3) := by decide +kernel
theorem dX7_takenIn_67 : decode cX7_takenIn 67 = .ok (.iload_n 3, 1) := by decide +kernel
theorem dX7_takenIn_68 : decode cX7_takenIn 68 = .ok (.iaload, 1) := by decide +kernel
theorem dX7_takenIn_69 : decode cX7_takenIn 69 = .ok (.iadd, 1) := by decide +kernel
theorem dX7_takenIn_70 : decode cX7_takenIn 70 = .ok (.istore_n 2, 1) := by decide +kernel
theorem dX7_takenIn_71 : decode cX7_takenIn 71 = .ok (.iinc 3 1, 3) := by decide +kernel
theorem dX7_takenIn_74 : decode cX7_takenIn 74 = .ok (.goto (-70), 3) := by decide +kernel
theorem dX7_takenIn_77 : decode cX7_takenIn 77 = .ok (.iload_n 2, 1) := by decide +kernel
theorem dX7_takenIn_78 : decode cX7_takenIn 78 = .ok (.ireturn, 1) := by decide +kernel
theorem dX7_importersAhead_0 : decode cX7_importersAhead 0 = .ok (.aload_n 0, 1) := by decide +kernel
theorem dX7_importersAhead_1 : decode cX7_importersAhead 1 = .ok (.getfield 35, 3) := by decide +kernel
theorem dX7_importersAhead_4 : decode cX7_importersAhead 4 = .ok (.iload_n 1, 1) := by decide +kernel
theorem dX7_importersAhead_5 : decode cX7_importersAhead 5 = .ok (.invokevirtual 253, 3) := by decide +kernel
theorem dX7_importersAhead_8 : decode cX7_importersAhead 8 = .ok (.istore_n 2, 1) := by decide +kernel
theorem dX7_importersAhead_9 : decode cX7_importersAhead 9 = .ok (.iconst 0, 1) := by decide +kernel
theorem dX7_importersAhead_10 : decode cX7_importersAhead 10 = .ok (.istore_n 3, 1) := by decide +kernel
theorem dX7_importersAhead_11 : decode cX7_importersAhead 11 = .ok (.iconst 0, 1) := by decide +kernel
theorem dX7_importersAhead_12 : decode cX7_importersAhead 12 = .ok (.istore 4, 2) := by decide +kernel
theorem dX7_importersAhead_14 : decode cX7_importersAhead 14 = .ok (.iload 4, 2) := by decide +kernel
theorem dX7_importersAhead_16 : decode cX7_importersAhead 16 = .ok (.aload_n 0, 1) := by decide +kernel
theorem dX7_importersAhead_17 : decode cX7_importersAhead 17 = .ok (.getfield 12, 3) := by decide +kernel
theorem dX7_importersAhead_20 : decode cX7_importersAhead 20 = .ok (.getfield 94, 3) := by decide +kernel
theorem dX7_importersAhead_23 : decode cX7_importersAhead 23 = .ok (.if_icmp .ge 46, 3) := by decide +kernel
theorem dX7_importersAhead_26 : decode cX7_importersAhead 26 = .ok (.aload_n 0, 1) := by decide +kernel
theorem dX7_importersAhead_27 : decode cX7_importersAhead 27 = .ok (.getfield 35, 3) := by decide +kernel
theorem dX7_importersAhead_30 : decode cX7_importersAhead 30 = .ok (.iload 4, 2) := by decide +kernel
theorem dX7_importersAhead_32 : decode cX7_importersAhead 32 = .ok (.invokevirtual 253, 3) := by decide +kernel
theorem dX7_importersAhead_35 : decode cX7_importersAhead 35 = .ok (.istore 5, 2) := by decide +kernel
theorem dX7_importersAhead_37 : decode cX7_importersAhead 37 = .ok (.iload_n 3, 1) := by decide +kernel
theorem dX7_importersAhead_38 : decode cX7_importersAhead 38 = .ok (.iload 5, 2) := by decide +kernel
theorem dX7_importersAhead_40 : decode cX7_importersAhead 40 = .ok (.iload_n 2, 1) := by decide +kernel
theorem dX7_importersAhead_41 : decode cX7_importersAhead 41 = .ok (.if_icmp .gt 15, 3) := by decide +kernel
theorem dX7_importersAhead_44 : decode cX7_importersAhead 44 = .ok (.iload 5, 2) := by decide +kernel
theorem dX7_importersAhead_46 : decode cX7_importersAhead 46 = .ok (.iload_n 2, 1) := by decide +kernel
theorem dX7_importersAhead_47 : decode cX7_importersAhead 47 = .ok (.if_icmp .ne 13, 3) := by decide +kernel
theorem dX7_importersAhead_50 : decode cX7_importersAhead 50 = .ok (.iload 4, 2) := by decide +kernel
theorem dX7_importersAhead_52 : decode cX7_importersAhead 52 = .ok (.iload_n 1, 1) := by decide +kernel
theorem dX7_importersAhead_53 : decode cX7_importersAhead 53 = .ok (.if_icmp .ge 7, 3) := by decide +kernel
theorem dX7_importersAhead_56 : decode cX7_importersAhead 56 = .ok (.iconst 1, 1) := by decide +kernel
theorem dX7_importersAhead_57 : decode cX7_importersAhead 57 = .ok (.goto 4, 3) := by decide +kernel
theorem dX7_importersAhead_60 : decode cX7_importersAhead 60 = .ok (.iconst 0, 1) := by decide +kernel
theorem dX7_importersAhead_61 : decode cX7_importersAhead 61 = .ok (.iadd, 1) := by decide +kernel
theorem dX7_importersAhead_62 : decode cX7_importersAhead 62 = .ok (.istore_n 3, 1) := by decide +kernel
theorem dX7_importersAhead_63 : decode cX7_importersAhead 63 = .ok (.iinc 4 1, 3) := by decide +kernel
theorem dX7_importersAhead_66 : decode cX7_importersAhead 66 = .ok (.goto (-52), 3) := by decide +kernel
theorem dX7_importersAhead_69 : decode cX7_importersAhead 69 = .ok (.iload_n 3, 1) := by decide +kernel
theorem dX7_importersAhead_70 : decode cX7_importersAhead 70 = .ok (.ireturn, 1) := by decide +kernel
theorem dX7_lesserAhead_0 : decode cX7_lesserAhead 0 = .ok (.aload_n 0, 1) := by decide +kernel
theorem dX7_lesserAhead_1 : decode cX7_lesserAhead 1 = .ok (.getfield 12, 3) := by decide +kernel
theorem dX7_lesserAhead_4 : decode cX7_lesserAhead 4 = .ok (.iload_n 1, 1) := by decide +kernel
theorem dX7_lesserAhead_5 : decode cX7_lesserAhead 5 = .ok (.iload_n 2, 1) := by decide +kernel
theorem dX7_lesserAhead_6 : decode cX7_lesserAhead 6 = .ok (.invokestatic 123, 3) := by decide +kernel
theorem dX7_lesserAhead_9 : decode cX7_lesserAhead 9 = .ok (.invokevirtual 151, 3) := by decide +kernel
theorem dX7_lesserAhead_12 : decode cX7_lesserAhead 12 = .ok (.istore_n 3, 1) := by decide +kernel
theorem dX7_lesserAhead_13 : decode cX7_lesserAhead 13 = .ok (.iconst 0, 1) := by decide +kernel
theorem dX7_lesserAhead_14 : decode cX7_lesserAhead 14 = .ok (.istore 4, 2) := by decide +kernel
theorem dX7_lesserAhead_16 : decode cX7_lesserAhead 16 = .ok (.iconst 0, 1) := by decide +kernel
theorem dX7_lesserAhead_17 : decode cX7_lesserAhead 17 = .ok (.istore 5, 2) := by decide +kernel
theorem dX7_lesserAhead_19 : decode cX7_lesserAhead 19 = .ok (.iload 5, 2) := by decide +kernel
theorem dX7_lesserAhead_21 : decode cX7_lesserAhead 21 = .ok (.aload_n 0, 1) := by decide +kernel
theorem dX7_lesserAhead_22 : decode cX7_lesserAhead 22 = .ok (.getfield 12, 3) := by decide +kernel
theorem dX7_lesserAhead_25 : decode cX7_lesserAhead 25 = .ok (.getfield 94, 3) := by decide +kernel
theorem dX7_lesserAhead_28 : decode cX7_lesserAhead 28 = .ok (.if_icmp .ge 80, 3) := by decide +kernel
theorem dX7_lesserAhead_31 : decode cX7_lesserAhead 31 = .ok (.iload 5, 2) := by decide +kernel
theorem dX7_lesserAhead_33 : decode cX7_lesserAhead 33 = .ok (.iload_n 2, 1) := by decide +kernel
theorem dX7_lesserAhead_34 : decode cX7_lesserAhead 34 = .ok (.invokestatic 123, 3) := by decide +kernel
theorem dX7_lesserAhead_37 : decode cX7_lesserAhead 37 = .ok (.istore 6, 2) := by decide +kernel
theorem dX7_lesserAhead_39 : decode cX7_lesserAhead 39 = .ok (.aload_n 0, 1) := by decide +kernel
theorem dX7_lesserAhead_40 : decode cX7_lesserAhead 40 = .ok (.getfield 12, 3) := by decide +kernel
theorem dX7_lesserAhead_43 : decode cX7_lesserAhead 43 = .ok (.iload 6, 2) := by decide +kernel
theorem dX7_lesserAhead_45 : decode cX7_lesserAhead 45 = .ok (.invokevirtual 151, 3) := by decide +kernel
theorem dX7_lesserAhead_48 : decode cX7_lesserAhead 48 = .ok (.istore 7, 2) := by decide +kernel
theorem dX7_lesserAhead_50 : decode cX7_lesserAhead 50 = .ok (.iload 7, 2) := by decide +kernel
theorem dX7_lesserAhead_52 : decode cX7_lesserAhead 52 = .ok (.iload_n 3, 1) := by decide +kernel
theorem dX7_lesserAhead_53 : decode cX7_lesserAhead 53 = .ok (.if_icmp .lt 15, 3) := by decide +kernel
theorem dX7_lesserAhead_56 : decode cX7_lesserAhead 56 = .ok (.iload 7, 2) := by decide +kernel
theorem dX7_lesserAhead_58 : decode cX7_lesserAhead 58 = .ok (.iload_n 3, 1) := by decide +kernel
theorem dX7_lesserAhead_59 : decode cX7_lesserAhead 59 = .ok (.if_icmp .ne 13, 3) := by decide +kernel
theorem dX7_lesserAhead_62 : decode cX7_lesserAhead 62 = .ok (.iload 5, 2) := by decide +kernel
theorem dX7_lesserAhead_64 : decode cX7_lesserAhead 64 = .ok (.iload_n 1, 1) := by decide +kernel
theorem dX7_lesserAhead_65 : decode cX7_lesserAhead 65 = .ok (.if_icmp .ge 7, 3) := by decide +kernel
theorem dX7_lesserAhead_68 : decode cX7_lesserAhead 68 = .ok (.iconst 1, 1) := by decide +kernel
theorem dX7_lesserAhead_69 : decode cX7_lesserAhead 69 = .ok (.goto 4, 3) := by decide +kernel
theorem dX7_lesserAhead_72 : decode cX7_lesserAhead 72 = .ok (.iconst 0, 1) := by decide +kernel
theorem dX7_lesserAhead_73 : decode cX7_lesserAhead 73 = .ok (.istore 8, 2) := by decide +kernel
theorem dX7_lesserAhead_75 : decode cX7_lesserAhead 75 = .ok (.iload 4, 2) := by decide +kernel
theorem dX7_lesserAhead_77 : decode cX7_lesserAhead 77 = .ok (.aload_n 0, 1) := by decide +kernel
theorem dX7_lesserAhead_78 : decode cX7_lesserAhead 78 = .ok (.getfield 28, 3) := by decide +kernel
theorem dX7_lesserAhead_81 : decode cX7_lesserAhead 81 = .ok (.iload 6, 2) := by decide +kernel
theorem dX7_lesserAhead_83 : decode cX7_lesserAhead 83 = .ok (.invokevirtual 148, 3) := by decide +kernel
theorem dX7_lesserAhead_86 : decode cX7_lesserAhead 86 = .ok (.ifCond .eq 12, 3) := by decide +kernel
theorem dX7_lesserAhead_89 : decode cX7_lesserAhead 89 = .ok (.iload 8, 2) := by decide +kernel
theorem dX7_lesserAhead_91 : decode cX7_lesserAhead 91 = .ok (.ifCond .eq 7, 3) := by decide +kernel
theorem dX7_lesserAhead_94 : decode cX7_lesserAhead 94 = .ok (.iconst 1, 1) := by decide +kernel
theorem dX7_lesserAhead_95 : decode cX7_lesserAhead 95 = .ok (.goto 4, 3) := by decide +kernel
theorem dX7_lesserAhead_98 : decode cX7_lesserAhead 98 = .ok (.iconst 0, 1) := by decide +kernel
theorem dX7_lesserAhead_99 : decode cX7_lesserAhead 99 = .ok (.iadd, 1) := by decide +kernel
theorem dX7_lesserAhead_100 : decode cX7_lesserAhead 100 = .ok (.istore 4, 2) := by decide +kernel
theorem dX7_lesserAhead_102 : decode cX7_lesserAhead 102 = .ok (.iinc 5 1, 3) := by decide +kernel
theorem dX7_lesserAhead_105 : decode cX7_lesserAhead 105 = .ok (.goto (-86), 3) := by decide +kernel
theorem dX7_lesserAhead_108 : decode cX7_lesserAhead 108 = .ok (.iload 4, 2) := by decide +kernel
theorem dX7_lesserAhead_110 : decode cX7_lesserAhead 110 = .ok (.ireturn, 1) := by decide +kernel
theorem dX8_init_0 : decode cX8_init 0 = .ok (.aload_n 0, 1) := by decide +kernel
theorem dX8_init_1 : decode cX8_init 1 = .ok (.invokespecial 3, 3) := by decide +kernel
theorem dX8_init_4 : decode cX8_init 4 = .ok (.aload_n 0, 1) := by decide +kernel
theorem dX8_init_5 : decode cX8_init 5 = .ok (.sipush 400, 3) := by decide +kernel
theorem dX8_init_8 : decode cX8_init 8 = .ok (.newarray .byte, 2) := by decide +kernel
theorem dX8_init_10 : decode cX8_init 10 = .ok (.putfield 9, 3) := by decide +kernel
theorem dX8_init_13 : decode cX8_init 13 = .ok (.return_, 1) := by decide +kernel
theorem dX8_takeIn_0 : decode cX8_takeIn 0 = .ok (.aload_n 0, 1) := by decide +kernel
theorem dX8_takeIn_1 : decode cX8_takeIn 1 = .ok (.getfield 15, 3) := by decide +kernel
theorem dX8_takeIn_4 : decode cX8_takeIn 4 = .ok (.bipush 20, 2) := by decide +kernel
theorem dX8_takeIn_6 : decode cX8_takeIn 6 = .ok (.iadd, 1) := by decide +kernel
theorem dX8_takeIn_7 : decode cX8_takeIn 7 = .ok (.sipush 400, 3) := by decide +kernel
theorem dX8_takeIn_10 : decode cX8_takeIn 10 = .ok (.if_icmp .le 5, 3) := by decide +kernel
theorem dX8_takeIn_13 : decode cX8_takeIn 13 = .ok (.iconst (-1), 1) := by decide +kernel
theorem dX8_takeIn_14 : decode cX8_takeIn 14 = .ok (.ireturn, 1) := by decide +kernel
theorem dX8_takeIn_15 : decode cX8_takeIn 15 = .ok (.aload_n 0, 1) := by decide +kernel
theorem dX8_takeIn_16 : decode cX8_takeIn 16 = .ok (.iload_n 1, 1) := by decide +kernel
theorem dX8_takeIn_17 : decode cX8_takeIn 17 = .ok (.invokevirtual 19, 3) := by decide +kernel
theorem dX8_takeIn_20 : decode cX8_takeIn 20 = .ok (.aload_n 0, 1) := by decide +kernel
theorem dX8_takeIn_21 : decode cX8_takeIn 21 = .ok (.iload_n 2, 1) := by decide +kernel
theorem dX8_takeIn_22 : decode cX8_takeIn 22 = .ok (.invokevirtual 19, 3) := by decide +kernel
theorem dX8_takeIn_25 : decode cX8_takeIn 25 = .ok (.aload_n 0, 1) := by decide +kernel
theorem dX8_takeIn_26 : decode cX8_takeIn 26 = .ok (.iload_n 3, 1) := by decide +kernel
theorem dX8_takeIn_27 : decode cX8_takeIn 27 = .ok (.invokevirtual 19, 3) := by decide +kernel
theorem dX8_takeIn_30 : decode cX8_takeIn 30 = .ok (.aload_n 0, 1) := by decide +kernel
theorem dX8_takeIn_31 : decode cX8_takeIn 31 = .ok (.iload 4, 2) := by decide +kernel
theorem dX8_takeIn_33 : decode cX8_takeIn 33 = .ok (.invokevirtual 19, 3) := by decide +kernel
theorem dX8_takeIn_36 : decode cX8_takeIn 36 = .ok (.aload_n 0, 1) := by decide +kernel
theorem dX8_takeIn_37 : decode cX8_takeIn 37 = .ok (.iload 5, 2) := by decide +kernel
theorem dX8_takeIn_39 : decode cX8_takeIn 39 = .ok (.invokevirtual 19, 3) := by decide +kernel
theorem dX8_takeIn_42 : decode cX8_takeIn 42 = .ok (.aload_n 0, 1) := by decide +kernel
theorem dX8_takeIn_43 : decode cX8_takeIn 43 = .ok (.getfield 15, 3) := by decide +kernel
theorem dX8_takeIn_46 : decode cX8_takeIn 46 = .ok (.ireturn, 1) := by decide +kernel
theorem dX8_takeFour_0 : decode cX8_takeFour 0 = .ok (.bipush 24, 2) := by decide +kernel
theorem dX8_takeFour_2 : decode cX8_takeFour 2 = .ok (.istore_n 2, 1) := by decide +kernel
theorem dX8_takeFour_3 : decode cX8_takeFour 3 = .ok (.iload_n 2, 1) := by decide +kernel
theorem dX8_takeFour_4 : decode cX8_takeFour 4 = .ok (.ifCond .lt 42, 3) := by decide +kernel
theorem dX8_takeFour_7 : decode cX8_takeFour 7 = .ok (.aload_n 0, 1) := by decide +kernel
theorem dX8_takeFour_8 : decode cX8_takeFour 8 = .ok (.getfield 15, 3) := by decide +kernel
theorem dX8_takeFour_11 : decode cX8_takeFour 11 = .ok (.sipush 400, 3) := by decide +kernel
theorem dX8_takeFour_14 : decode cX8_takeFour 14 = .ok (.if_icmp .ge 32, 3) := by decide +kernel
theorem dX8_takeFour_17 : decode cX8_takeFour 17 = .ok (.aload_n 0, 1) := by decide +kernel
theorem dX8_takeFour_18 : decode cX8_takeFour 18 = .ok (.getfield 9, 3) := by decide +kernel
theorem dX8_takeFour_21 : decode cX8_takeFour 21 = .ok (.aload_n 0, 1) := by decide +kernel
theorem dX8_takeFour_22 : decode cX8_takeFour 22 = .ok (.getfield 15, 3) := by decide +kernel
theorem dX8_takeFour_25 : decode cX8_takeFour 25 = .ok (.iload_n 1, 1) := by decide +kernel
theorem dX8_takeFour_26 : decode cX8_takeFour 26 = .ok (.iload_n 2, 1) := by decide +kernel
theorem dX8_takeFour_27 : decode cX8_takeFour 27 = .ok (.ishr, 1) := by decide +kernel
theorem dX8_takeFour_28 : decode cX8_takeFour 28 = .ok (.i2b, 1) := by decide +kernel
theorem dX8_takeFour_29 : decode cX8_takeFour 29 = .ok (.bastore, 1) := by decide +kernel
theorem dX8_takeFour_30 : decode cX8_takeFour 30 = .ok (.aload_n 0, 1) := by decide +kernel
theorem dX8_takeFour_31 : decode cX8_takeFour 31 = .ok (.dup, 1) := by decide +kernel
theorem dX8_takeFour_32 : decode cX8_takeFour 32 = .ok (.getfield 15, 3) := by decide +kernel
theorem dX8_takeFour_35 : decode cX8_takeFour 35 = .ok (.iconst 1, 1) := by decide +kernel
theorem dX8_takeFour_36 : decode cX8_takeFour 36 = .ok (.iadd, 1) := by decide +kernel
theorem dX8_takeFour_37 : decode cX8_takeFour 37 = .ok (.putfield 15, 3) := by decide +kernel
theorem dX8_takeFour_40 : decode cX8_takeFour 40 = .ok (.iinc 2 (-8), 3) := by decide +kernel
theorem dX8_takeFour_43 : decode cX8_takeFour 43 = .ok (.goto (-40), 3) := by decide +kernel
theorem dX8_takeFour_46 : decode cX8_takeFour 46 = .ok (.return_, 1) := by decide +kernel
theorem dX8_cutTo_0 : decode cX8_cutTo 0 = .ok (.iload_n 1, 1) := by decide +kernel
theorem dX8_cutTo_1 : decode cX8_cutTo 1 = .ok (.ifCond .lt 11, 3) := by decide +kernel
theorem dX8_cutTo_4 : decode cX8_cutTo 4 = .ok (.iload_n 1, 1) := by decide +kernel
theorem dX8_cutTo_5 : decode cX8_cutTo 5 = .ok (.aload_n 0, 1) := by decide +kernel
theorem dX8_cutTo_6 : decode cX8_cutTo 6 = .ok (.getfield 15, 3) := by decide +kernel
theorem dX8_cutTo_9 : decode cX8_cutTo 9 = .ok (.if_icmp .le 5, 3) := by decide +kernel
theorem dX8_cutTo_12 : decode cX8_cutTo 12 = .ok (.iconst (-1), 1) := by decide +kernel
theorem dX8_cutTo_13 : decode cX8_cutTo 13 = .ok (.ireturn, 1) := by decide +kernel
theorem dX8_cutTo_14 : decode cX8_cutTo 14 = .ok (.aload_n 0, 1) := by decide +kernel
theorem dX8_cutTo_15 : decode cX8_cutTo 15 = .ok (.iload_n 1, 1) := by decide +kernel
theorem dX8_cutTo_16 : decode cX8_cutTo 16 = .ok (.putfield 15, 3) := by decide +kernel
theorem dX8_cutTo_19 : decode cX8_cutTo 19 = .ok (.iload_n 1, 1) := by decide +kernel
theorem dX8_cutTo_20 : decode cX8_cutTo 20 = .ok (.ireturn, 1) := by decide +kernel
theorem dX9_init_0 : decode cX9_init 0 = .ok (.aload_n 0, 1) := by decide +kernel
theorem dX9_init_1 : decode cX9_init 1 = .ok (.invokespecial 3, 3) := by decide +kernel
theorem dX9_init_4 : decode cX9_init 4 = .ok (.aload_n 0, 1) := by decide +kernel
theorem dX9_init_5 : decode cX9_init 5 = .ok (.bipush 32, 2) := by decide +kernel
theorem dX9_init_7 : decode cX9_init 7 = .ok (.newarray .int, 2) := by decide +kernel
theorem dX9_init_9 : decode cX9_init 9 = .ok (.putfield 9, 3) := by decide +kernel
theorem dX9_init_12 : decode cX9_init 12 = .ok (.aload_n 0, 1) := by decide +kernel
theorem dX9_init_13 : decode cX9_init 13 = .ok (.bipush 96, 2) := by decide +kernel
theorem dX9_init_15 : decode cX9_init 15 = .ok (.newarray .int, 2) := by decide +kernel
theorem dX9_init_17 : decode cX9_init 17 = .ok (.putfield 15, 3) := by decide +kernel
theorem dX9_init_20 : decode cX9_init 20 = .ok (.aload_n 0, 1) := by decide +kernel
theorem dX9_init_21 : decode cX9_init 21 = .ok (.bipush 48, 2) := by decide +kernel
theorem dX9_init_23 : decode cX9_init 23 = .ok (.newarray .int, 2) := by decide +kernel
theorem dX9_init_25 : decode cX9_init 25 = .ok (.putfield 18, 3) := by decide +kernel
theorem dX9_init_28 : decode cX9_init 28 = .ok (.return_, 1) := by decide +kernel
theorem dX9_clear_0 : decode cX9_clear 0 = .ok (.aload_n 0, 1) := by decide +kernel
theorem dX9_clear_1 : decode cX9_clear 1 = .ok (.getfield 9, 3) := by decide +kernel
theorem dX9_clear_4 : decode cX9_clear 4 = .ok (.iconst 0, 1) := by decide +kernel
theorem dX9_clear_5 : decode cX9_clear 5 = .ok (.invokestatic 21, 3) := by decide +kernel
theorem dX9_clear_8 : decode cX9_clear 8 = .ok (.aload_n 0, 1) := by decide +kernel
theorem dX9_clear_9 : decode cX9_clear 9 = .ok (.getfield 15, 3) := by decide +kernel
theorem dX9_clear_12 : decode cX9_clear 12 = .ok (.iconst 0, 1) := by decide +kernel
theorem dX9_clear_13 : decode cX9_clear 13 = .ok (.invokestatic 21, 3) := by decide +kernel
theorem dX9_clear_16 : decode cX9_clear 16 = .ok (.aload_n 0, 1) := by decide +kernel
theorem dX9_clear_17 : decode cX9_clear 17 = .ok (.getfield 18, 3) := by decide +kernel
theorem dX9_clear_20 : decode cX9_clear 20 = .ok (.iconst 0, 1) := by decide +kernel
theorem dX9_clear_21 : decode cX9_clear 21 = .ok (.invokestatic 21, 3) := by decide +kernel
theorem dX9_clear_24 : decode cX9_clear 24 = .ok (.return_, 1) := by decide +kernel
theorem dX9_copyFrom_0 : decode cX9_copyFrom 0 = .ok (.aload_n 1, 1) := by decide +kernel
theorem dX9_copyFrom_1 : decode cX9_copyFrom 1 = .ok (.getfield 9, 3) := by decide +kernel
theorem dX9_copyFrom_4 : decode cX9_copyFrom 4 = .ok (.iconst 0, 1) := by decide +kernel
theorem dX9_copyFrom_5 : decode cX9_copyFrom 5 = .ok (.aload_n 0, 1) := by decide +kernel
theorem dX9_copyFrom_6 : decode cX9_copyFrom 6 = .ok (.getfield 9, 3) := by decide +kernel
theorem dX9_copyFrom_9 : decode cX9_copyFrom 9 = .ok (.iconst 0, 1) := by decide +kernel
theorem dX9_copyFrom_10 : decode cX9_copyFrom 10 = .ok (.aload_n 0, 1) := by decide +kernel
theorem dX9_copyFrom_11 : decode cX9_copyFrom 11 = .ok (.getfield 9, 3) := by decide +kernel
theorem dX9_copyFrom_14 : decode cX9_copyFrom 14 = .ok (.arraylength, 1) := by decide +kernel
theorem dX9_copyFrom_15 : decode cX9_copyFrom 15 = .ok (.invokestatic 27, 3) := by decide +kernel
theorem dX9_copyFrom_18 : decode cX9_copyFrom 18 = .ok (.aload_n 1, 1) := by decide +kernel
theorem dX9_copyFrom_19 : decode cX9_copyFrom 19 = .ok (.getfield 15, 3) := by decide +kernel
theorem dX9_copyFrom_22 : decode cX9_copyFrom 22 = .ok (.iconst 0, 1) := by decide +kernel
theorem dX9_copyFrom_23 : decode cX9_copyFrom 23 = .ok (.aload_n 0, 1) := by decide +kernel
theorem dX9_copyFrom_24 : decode cX9_copyFrom 24 = .ok (.getfield 15, 3) := by decide +kernel
theorem dX9_copyFrom_27 : decode cX9_copyFrom 27 = .ok (.iconst 0, 1) := by decide +kernel
theorem dX9_copyFrom_28 : decode cX9_copyFrom 28 = .ok (.aload_n 0, 1) := by decide +kernel
theorem dX9_copyFrom_29 : decode cX9_copyFrom 29 = .ok (.getfield 15, 3) := by decide +kernel
theorem dX9_copyFrom_32 : decode cX9_copyFrom 32 = .ok (.arraylength, 1) := by decide +kernel
theorem dX9_copyFrom_33 : decode cX9_copyFrom 33 = .ok (.invokestatic 27, 3) := by decide +kernel
theorem dX9_copyFrom_36 : decode cX9_copyFrom 36 = .ok (.aload_n 1, 1) := by decide +kernel
theorem dX9_copyFrom_37 : decode cX9_copyFrom 37 = .ok (.getfield 18, 3) := by decide +kernel
theorem dX9_copyFrom_40 : decode cX9_copyFrom 40 = .ok (.iconst 0, 1) := by decide +kernel
theorem dX9_copyFrom_41 : decode cX9_copyFrom 41 = .ok (.aload_n 0, 1) := by decide +kernel
theorem dX9_copyFrom_42 : decode cX9_copyFrom 42 = .ok (.getfield 18, 3) := by decide +kernel
theorem dX9_copyFrom_45 : decode cX9_copyFrom 45 = .ok (.iconst 0, 1) := by decide +kernel
theorem dX9_copyFrom_46 : decode cX9_copyFrom 46 = .ok (.aload_n 0, 1) := by decide +kernel
theorem dX9_copyFrom_47 : decode cX9_copyFrom 47 = .ok (.getfield 18, 3) := by decide +kernel
theorem dX9_copyFrom_50 : decode cX9_copyFrom 50 = .ok (.arraylength, 1) := by decide +kernel
theorem dX9_copyFrom_51 : decode cX9_copyFrom 51 = .ok (.invokestatic 27, 3) := by decide +kernel
theorem dX9_copyFrom_54 : decode cX9_copyFrom 54 = .ok (.return_, 1) := by decide +kernel
theorem dX9_importedBy_0 : decode cX9_importedBy 0 = .ok (.iconst 0, 1) := by decide +kernel
theorem dX9_importedBy_1 : decode cX9_importedBy 1 = .ok (.istore_n 2, 1) := by decide +kernel
theorem dX9_importedBy_2 : decode cX9_importedBy 2 = .ok (.iconst 0, 1) := by decide +kernel
theorem dX9_importedBy_3 : decode cX9_importedBy 3 = .ok (.istore_n 3, 1) := by decide +kernel
theorem dX9_importedBy_4 : decode cX9_importedBy 4 = .ok (.iload_n 3, 1) := by decide +kernel
theorem dX9_importedBy_5 : decode cX9_importedBy 5 = .ok (.bipush 12, 2) := by decide +kernel
theorem dX9_importedBy_7 : decode cX9_importedBy 7 = .ok (.if_icmp .ge 23, 3) := by decide +kernel
theorem dX9_importedBy_10 : decode cX9_importedBy 10 = .ok (.iload_n 2, 1) := by decide +kernel
theorem dX9_importedBy_11 : decode cX9_importedBy 11 = .ok (.aload_n 0, 1) := by decide +kernel
theorem dX9_importedBy_12 : decode cX9_importedBy 12 = .ok (.getfield 15, 3) := by decide +kernel
theorem dX9_importedBy_15 : decode cX9_importedBy 15 = .ok (.iload_n 1, 1) := by decide +kernel
theorem dX9_importedBy_16 : decode cX9_importedBy 16 = .ok (.bipush 12, 2) := by decide +kernel
theorem dX9_importedBy_18 : decode cX9_importedBy 18 = .ok (.imul, 1) := by decide +kernel
theorem dX9_importedBy_19 : decode cX9_importedBy 19 = .ok (.iload_n 3, 1) := by decide +kernel
theorem dX9_importedBy_20 : decode cX9_importedBy 20 = .ok (.iadd, 1) := by decide +kernel
theorem dX9_importedBy_21 : decode cX9_importedBy 21 = .ok (.iaload, 1) := by decide +kernel
theorem dX9_importedBy_22 : decode cX9_importedBy 22 = .ok (.iadd, 1) := by decide +kernel
theorem dX9_importedBy_23 : decode cX9_importedBy 23 = .ok (.istore_n 2, 1) := by decide +kernel
theorem dX9_importedBy_24 : decode cX9_importedBy 24 = .ok (.iinc 3 1, 3) := by decide +kernel
theorem dX9_importedBy_27 : decode cX9_importedBy 27 = .ok (.goto (-23), 3) := by decide +kernel
theorem dX9_importedBy_30 : decode cX9_importedBy 30 = .ok (.iload_n 2, 1) := by decide +kernel
theorem dX9_importedBy_31 : decode cX9_importedBy 31 = .ok (.ireturn, 1) := by decide +kernel
theorem dX9_importedOf_0 : decode cX9_importedOf 0 = .ok (.iconst 0, 1) := by decide +kernel
theorem dX9_importedOf_1 : decode cX9_importedOf 1 = .ok (.istore 4, 2) := by decide +kernel
theorem dX9_importedOf_3 : decode cX9_importedOf 3 = .ok (.iload_n 2, 1) := by decide +kernel
theorem dX9_importedOf_4 : decode cX9_importedOf 4 = .ok (.istore 5, 2) := by decide +kernel
theorem dX9_importedOf_6 : decode cX9_importedOf 6 = .ok (.iload 5, 2) := by decide +kernel
theorem dX9_importedOf_8 : decode cX9_importedOf 8 = .ok (.iload_n 2, 1) := by decide +kernel
theorem dX9_importedOf_9 : decode cX9_importedOf 9 = .ok (.iload_n 3, 1) := by decide +kernel
theorem dX9_importedOf_10 : decode cX9_importedOf 10 = .ok (.iadd, 1) := by decide +kernel
theorem dX9_importedOf_11 : decode cX9_importedOf 11 = .ok (.if_icmp .ge 33, 3) := by decide +kernel
theorem dX9_importedOf_14 : decode cX9_importedOf 14 = .ok (.iload 5, 2) := by decide +kernel
theorem dX9_importedOf_16 : decode cX9_importedOf 16 = .ok (.bipush 12, 2) := by decide +kernel
theorem dX9_importedOf_18 : decode cX9_importedOf 18 = .ok (.if_icmp .ge 26, 3) := by decide +kernel
theorem dX9_importedOf_21 : decode cX9_importedOf 21 = .ok (.iload 4, 2) := by decide +kernel
theorem dX9_importedOf_23 : decode cX9_importedOf 23 = .ok (.aload_n 0, 1) := by decide +kernel
theorem dX9_importedOf_24 : decode cX9_importedOf 24 = .ok (.getfield 18, 3) := by decide +kernel
theorem dX9_importedOf_27 : decode cX9_importedOf 27 = .ok (.iload_n 1, 1) := by decide +kernel
theorem dX9_importedOf_28 : decode cX9_importedOf 28 = .ok (.bipush 12, 2) := by decide +kernel
theorem dX9_importedOf_30 : decode cX9_importedOf 30 = .ok (.imul, 1) := by decide +kernel
theorem dX9_importedOf_31 : decode cX9_importedOf 31 = .ok (.iload 5, 2) := by decide +kernel
theorem dX9_importedOf_33 : decode cX9_importedOf 33 = .ok (.iadd, 1) := by decide +kernel
theorem dX9_importedOf_34 : decode cX9_importedOf 34 = .ok (.iaload, 1) := by decide +kernel
theorem dX9_importedOf_35 : decode cX9_importedOf 35 = .ok (.iadd, 1) := by decide +kernel
theorem dX9_importedOf_36 : decode cX9_importedOf 36 = .ok (.istore 4, 2) := by decide +kernel
theorem dX9_importedOf_38 : decode cX9_importedOf 38 = .ok (.iinc 5 1, 3) := by decide +kernel
theorem dX9_importedOf_41 : decode cX9_importedOf 41 = .ok (.goto (-35), 3) := by decide +kernel
theorem dX9_importedOf_44 : decode cX9_importedOf 44 = .ok (.iload 4, 2) := by decide +kernel
theorem dX9_importedOf_46 : decode cX9_importedOf 46 = .ok (.ireturn, 1) := by decide +kernel
theorem dX10_init_0 : decode cX10_init 0 = .ok (.aload_n 0, 1) := by decide +kernel
theorem dX10_init_1 : decode cX10_init 1 = .ok (.invokespecial 1, 3) := by decide +kernel
theorem dX10_init_4 : decode cX10_init 4 = .ok (.aload_n 0, 1) := by decide +kernel
theorem dX10_init_5 : decode cX10_init 5 = .ok (.new 7, 3) := by decide +kernel
theorem dX10_init_8 : decode cX10_init 8 = .ok (.dup, 1) := by decide +kernel
theorem dX10_init_9 : decode cX10_init 9 = .ok (.invokespecial 9, 3) := by decide +kernel
theorem dX10_init_12 : decode cX10_init 12 = .ok (.putfield 10, 3) := by decide +kernel
theorem dX10_init_15 : decode cX10_init 15 = .ok (.aload_n 0, 1) := by decide +kernel
theorem dX10_init_16 : decode cX10_init 16 = .ok (.new 16, 3) := by decide +kernel
theorem dX10_init_19 : decode cX10_init 19 = .ok (.dup, 1) := by decide +kernel
theorem dX10_init_20 : decode cX10_init 20 = .ok (.invokespecial 18, 3) := by decide +kernel
theorem dX10_init_23 : decode cX10_init 23 = .ok (.putfield 19, 3) := by decide +kernel
theorem dX10_init_26 : decode cX10_init 26 = .ok (.aload_n 0, 1) := by decide +kernel
theorem dX10_init_27 : decode cX10_init 27 = .ok (.new 23, 3) := by decide +kernel
theorem dX10_init_30 : decode cX10_init 30 = .ok (.dup, 1) := by decide +kernel
theorem dX10_init_31 : decode cX10_init 31 = .ok (.invokespecial 25, 3) := by decide +kernel
theorem dX10_init_34 : decode cX10_init 34 = .ok (.putfield 26, 3) := by decide +kernel
theorem dX10_init_37 : decode cX10_init 37 = .ok (.aload_n 0, 1) := by decide +kernel
theorem dX10_init_38 : decode cX10_init 38 = .ok (.new 30, 3) := by decide +kernel
theorem dX10_init_41 : decode cX10_init 41 = .ok (.dup, 1) := by decide +kernel
theorem dX10_init_42 : decode cX10_init 42 = .ok (.invokespecial 32, 3) := by decide +kernel
theorem dX10_init_45 : decode cX10_init 45 = .ok (.putfield 33, 3) := by decide +kernel
theorem dX10_init_48 : decode cX10_init 48 = .ok (.aload_n 0, 1) := by decide +kernel
theorem dX10_init_49 : decode cX10_init 49 = .ok (.iconst 2, 1) := by decide +kernel
theorem dX10_init_50 : decode cX10_init 50 = .ok (.anewarray 23, 3) := by decide +kernel
theorem dX10_init_53 : decode cX10_init 53 = .ok (.putfield 37, 3) := by decide +kernel
theorem dX10_init_56 : decode cX10_init 56 = .ok (.aload_n 0, 1) := by decide +kernel
theorem dX10_init_57 : decode cX10_init 57 = .ok (.new 41, 3) := by decide +kernel
theorem dX10_init_60 : decode cX10_init 60 = .ok (.dup, 1) := by decide +kernel
theorem dX10_init_61 : decode cX10_init 61 = .ok (.invokespecial 43, 3) := by decide +kernel
theorem dX10_init_64 : decode cX10_init 64 = .ok (.putfield 44, 3) := by decide +kernel
theorem dX10_init_67 : decode cX10_init 67 = .ok (.return_, 1) := by decide +kernel
theorem dX10_feed_0 : decode cX10_feed 0 = .ok (.aload_n 0, 1) := by decide +kernel
theorem dX10_feed_1 : decode cX10_feed 1 = .ok (.getfield 10, 3) := by decide +kernel
theorem dX10_feed_4 : decode cX10_feed 4 = .ok (.getfield 48, 3) := by decide +kernel
theorem dX10_feed_7 : decode cX10_feed 7 = .ok (.iload_n 1, 1) := by decide +kernel
theorem dX10_feed_8 : decode cX10_feed 8 = .ok (.iload_n 2, 1) := by decide +kernel
theorem dX10_feed_9 : decode cX10_feed 9 = .ok (.iload_n 3, 1) := by decide +kernel
theorem dX10_feed_10 : decode cX10_feed 10 = .ok (.iload 4, 2) := by decide +kernel
theorem dX10_feed_12 : decode cX10_feed 12 = .ok (.iload 5, 2) := by decide +kernel
theorem dX10_feed_14 : decode cX10_feed 14 = .ok (.invokevirtual 52, 3) := by decide +kernel
theorem dX10_feed_17 : decode cX10_feed 17 = .ok (.ireturn, 1) := by decide +kernel
theorem dX10_end_0 : decode cX10_end 0 = .ok (.aload_n 0, 1) := by decide +kernel
theorem dX10_end_1 : decode cX10_end 1 = .ok (.getfield 10, 3) := by decide +kernel
theorem dX10_end_4 : decode cX10_end 4 = .ok (.getfield 48, 3) := by decide +kernel
theorem dX10_end_7 : decode cX10_end 7 = .ok (.iload_n 1, 1) := by decide +kernel
theorem dX10_end_8 : decode cX10_end 8 = .ok (.invokevirtual 58, 3) := by decide +kernel
theorem dX10_end_11 : decode cX10_end 11 = .ok (.ireturn, 1) := by decide +kernel
theorem dX10_tell_0 : decode cX10_tell 0 = .ok (.aload_n 0, 1) := by decide +kernel
theorem dX10_tell_1 : decode cX10_tell 1 = .ok (.getfield 10, 3) := by decide +kernel
theorem dX10_tell_4 : decode cX10_tell 4 = .ok (.invokevirtual 62, 3) := by decide +kernel
theorem dX10_tell_7 : decode cX10_tell 7 = .ok (.istore_n 1, 1) := by decide +kernel
theorem dX10_tell_8 : decode cX10_tell 8 = .ok (.aload_n 0, 1) := by decide +kernel
theorem dX10_tell_9 : decode cX10_tell 9 = .ok (.getfield 10, 3) := by decide +kernel
theorem dX10_tell_12 : decode cX10_tell 12 = .ok (.getfield 48, 3) := by decide +kernel
theorem dX10_tell_15 : decode cX10_tell 15 = .ok (.iconst 0, 1) := by decide +kernel
theorem dX10_tell_16 : decode cX10_tell 16 = .ok (.putfield 66, 3) := by decide +kernel
theorem dX10_tell_19 : decode cX10_tell 19 = .ok (.iload_n 1, 1) := by decide +kernel
theorem dX10_tell_20 : decode cX10_tell 20 = .ok (.ifCond .eq 8, 3) := by decide +kernel
theorem dX10_tell_23 : decode cX10_tell 23 = .ok (.bipush (-2), 2) := by decide +kernel
theorem dX10_tell_25 : decode cX10_tell 25 = .ok (.iload_n 1, 1) := by decide +kernel
theorem dX10_tell_26 : decode cX10_tell 26 = .ok (.isub, 1) := by decide +kernel
theorem dX10_tell_27 : decode cX10_tell 27 = .ok (.ireturn, 1) := by decide +kernel
theorem dX10_tell_28 : decode cX10_tell 28 = .ok (.aload_n 0, 1) := by decide +kernel
theorem dX10_tell_29 : decode cX10_tell 29 = .ok (.getfield 26, 3) := by decide +kernel
theorem dX10_tell_32 : decode cX10_tell 32 = .ok (.aload_n 0, 1) := by decide +kernel
theorem dX10_tell_33 : decode cX10_tell 33 = .ok (.getfield 10, 3) := by decide +kernel
theorem dX10_tell_36 : decode cX10_tell 36 = .ok (.getfield 70, 3) := by decide +kernel
theorem dX10_tell_39 : decode cX10_tell 39 = .ok (.invokevirtual 74, 3) := by decide +kernel
theorem dX10_tell_42 : decode cX10_tell 42 = .ok (.aload_n 0, 1) := by decide +kernel
theorem dX10_tell_43 : decode cX10_tell 43 = .ok (.getfield 33, 3) := by decide +kernel
theorem dX10_tell_46 : decode cX10_tell 46 = .ok (.invokevirtual 78, 3) := by decide +kernel
theorem dX10_tell_49 : decode cX10_tell 49 = .ok (.aload_n 0, 1) := by decide +kernel
theorem dX10_tell_50 : decode cX10_tell 50 = .ok (.getfield 26, 3) := by decide +kernel
theorem dX10_tell_53 : decode cX10_tell 53 = .ok (.getfield 81, 3) := by decide +kernel
theorem dX10_tell_56 : decode cX10_tell 56 = .ok (.getfield 82, 3) := by decide +kernel
theorem dX10_tell_59 : decode cX10_tell 59 = .ok (.ireturn, 1) := by decide +kernel
theorem dX10_apply_0 : decode cX10_apply 0 = .ok (.aload_n 0, 1) := by decide +kernel
theorem dX10_apply_1 : decode cX10_apply 1 = .ok (.getfield 26, 3) := by decide +kernel
theorem dX10_apply_4 : decode cX10_apply 4 = .ok (.iload_n 1, 1) := by decide +kernel
theorem dX10_apply_5 : decode cX10_apply 5 = .ok (.iload_n 2, 1) := by decide +kernel
theorem dX10_apply_6 : decode cX10_apply 6 = .ok (.invokevirtual 87, 3) := by decide +kernel
theorem dX10_apply_9 : decode cX10_apply 9 = .ok (.ifCond .eq 10, 3) := by decide +kernel
theorem dX10_apply_12 : decode cX10_apply 12 = .ok (.iload_n 3, 1) := by decide +kernel
theorem dX10_apply_13 : decode cX10_apply 13 = .ok (.invokestatic 91, 3) := by decide +kernel
theorem dX10_apply_16 : decode cX10_apply 16 = .ok (.ifCond .ne 5, 3) := by decide +kernel
theorem dX10_apply_19 : decode cX10_apply 19 = .ok (.iconst (-1), 1) := by decide +kernel
theorem dX10_apply_20 : decode cX10_apply 20 = .ok (.ireturn, 1) := by decide +kernel
theorem dX10_apply_21 : decode cX10_apply 21 = .ok (.aload_n 0, 1) := by decide +kernel
theorem dX10_apply_22 : decode cX10_apply 22 = .ok (.getfield 26, 3) := by decide +kernel
theorem dX10_apply_25 : decode cX10_apply 25 = .ok (.iload_n 1, 1) := by decide +kernel
theorem dX10_apply_26 : decode cX10_apply 26 = .ok (.iload_n 2, 1) := by decide +kernel
theorem dX10_apply_27 : decode cX10_apply 27 = .ok (.iload_n 3, 1) := by decide +kernel
theorem dX10_apply_28 : decode cX10_apply 28 = .ok (.invokevirtual 95, 3) := by decide +kernel
theorem dX10_apply_31 : decode cX10_apply 31 = .ok (.istore 4, 2) := by decide +kernel
theorem dX10_apply_33 : decode cX10_apply 33 = .ok (.iload 4, 2) := by decide +kernel
theorem dX10_apply_35 : decode cX10_apply 35 = .ok (.ifCond .ge 6, 3) := by decide +kernel
theorem dX10_apply_38 : decode cX10_apply 38 = .ok (.iload 4, 2) := by decide +kernel
theorem dX10_apply_40 : decode cX10_apply 40 = .ok (.ireturn, 1) := by decide +kernel
theorem dX10_apply_41 : decode cX10_apply 41 = .ok (.aload_n 0, 1) := by decide +kernel
theorem dX10_apply_42 : decode cX10_apply 42 = .ok (.getfield 33, 3) := by decide +kernel
theorem dX10_apply_45 : decode cX10_apply 45 = .ok (.aload_n 0, 1) := by decide +kernel
theorem dX10_apply_46 : decode cX10_apply 46 = .ok (.getfield 26, 3) := by decide +kernel
theorem dX10_apply_49 : decode cX10_apply 49 = .ok (.invokevirtual 99, 3) := by decide +kernel
theorem dX10_apply_52 : decode cX10_apply 52 = .ok (.aload_n 0, 1) := by decide +kernel
theorem dX10_apply_53 : decode cX10_apply 53 = .ok (.getfield 26, 3) := by decide +kernel
theorem dX10_apply_56 : decode cX10_apply 56 = .ok (.iload_n 1, 1) := by decide +kernel
theorem dX10_apply_57 : decode cX10_apply 57 = .ok (.iload_n 2, 1) := by decide +kernel
theorem dX10_apply_58 : decode cX10_apply 58 = .ok (.iload 4, 2) := by decide +kernel
theorem dX10_apply_60 : decode cX10_apply 60 = .ok (.invokevirtual 103, 3) := by decide +kernel
theorem dX10_apply_63 : decode cX10_apply 63 = .ok (.ireturn, 1) := by decide +kernel
theorem dX10_use_0 : decode cX10_use 0 = .ok (.aload_n 0, 1) := by decide +kernel
theorem dX10_use_1 : decode cX10_use 1 = .ok (.getfield 26, 3) := by decide +kernel
theorem dX10_use_4 : decode cX10_use 4 = .ok (.getfield 106, 3) := by decide +kernel
theorem dX10_use_7 : decode cX10_use 7 = .ok (.iload_n 1, 1) := by decide +kernel
theorem dX10_use_8 : decode cX10_use 8 = .ok (.invokevirtual 110, 3) := by decide +kernel
theorem dX10_use_11 : decode cX10_use 11 = .ok (.ifCond .eq 10, 3) := by decide +kernel
theorem dX10_use_14 : decode cX10_use 14 = .ok (.iload_n 2, 1) := by decide +kernel
theorem dX10_use_15 : decode cX10_use 15 = .ok (.invokestatic 91, 3) := by decide +kernel
theorem dX10_use_18 : decode cX10_use 18 = .ok (.ifCond .ne 5, 3) := by decide +kernel
theorem dX10_use_21 : decode cX10_use 21 = .ok (.iconst (-1), 1) := by decide +kernel
theorem dX10_use_22 : decode cX10_use 22 = .ok (.ireturn, 1) := by decide +kernel
theorem dX10_use_23 : decode cX10_use 23 = .ok (.aload_n 0, 1) := by decide +kernel
theorem dX10_use_24 : decode cX10_use 24 = .ok (.getfield 26, 3) := by decide +kernel
theorem dX10_use_27 : decode cX10_use 27 = .ok (.getfield 106, 3) := by decide +kernel
theorem dX10_use_30 : decode cX10_use 30 = .ok (.iload_n 1, 1) := by decide +kernel
theorem dX10_use_31 : decode cX10_use 31 = .ok (.invokevirtual 115, 3) := by decide +kernel
theorem dX10_use_34 : decode cX10_use 34 = .ok (.ifCond .ne 6, 3) := by decide +kernel
theorem dX10_use_37 : decode cX10_use 37 = .ok (.bipush (-2), 2) := by decide +kernel
theorem dX10_use_39 : decode cX10_use 39 = .ok (.ireturn, 1) := by decide +kernel
theorem dX10_use_40 : decode cX10_use 40 = .ok (.aload_n 0, 1) := by decide +kernel
theorem dX10_use_41 : decode cX10_use 41 = .ok (.getfield 26, 3) := by decide +kernel
theorem dX10_use_44 : decode cX10_use 44 = .ok (.getfield 106, 3) := by decide +kernel
theorem dX10_use_47 : decode cX10_use 47 = .ok (.iload_n 1, 1) := by decide +kernel
theorem dX10_use_48 : decode cX10_use 48 = .ok (.invokevirtual 118, 3) := by decide +kernel
theorem dX10_use_51 : decode cX10_use 51 = .ok (.iload_n 2, 1) := by decide +kernel
theorem dX10_use_52 : decode cX10_use 52 = .ok (.if_icmp .ge 6, 3) := by decide +kernel
theorem dX10_use_55 : decode cX10_use 55 = .ok (.bipush (-3), 2) := by decide +kernel
theorem dX10_use_57 : decode cX10_use 57 = .ok (.ireturn, 1) := by decide +kernel
theorem dX10_use_58 : decode cX10_use 58 = .ok (.aload_n 0, 1) := by decide +kernel
theorem dX10_use_59 : decode cX10_use 59 = .ok (.getfield 33, 3) := by decide +kernel
theorem dX10_use_62 : decode cX10_use 62 = .ok (.aload_n 0, 1) := by decide +kernel
theorem dX10_use_63 : decode cX10_use 63 = .ok (.getfield 26, 3) := by decide +kernel
theorem dX10_use_66 : decode cX10_use 66 = .ok (.invokevirtual 99, 3) := by decide +kernel
theorem dX10_use_69 : decode cX10_use 69 = .ok (.aload_n 0, 1) := by decide +kernel
theorem dX10_use_70 : decode cX10_use 70 = .ok (.getfield 26, 3) := by decide +kernel
theorem dX10_use_73 : decode cX10_use 73 = .ok (.iload_n 1, 1) := by decide +kernel
theorem dX10_use_74 : decode cX10_use 74 = .ok (.iload_n 2, 1) := by decide +kernel
theorem dX10_use_75 : decode cX10_use 75 = .ok (.invokevirtual 121, 3) := by decide +kernel
theorem dX10_use_78 : decode cX10_use 78 = .ok (.aload_n 0, 1) := by decide +kernel
theorem dX10_use_79 : decode cX10_use 79 = .ok (.getfield 26, 3) := by decide +kernel
theorem dX10_use_82 : decode cX10_use 82 = .ok (.getfield 106, 3) := by decide +kernel
theorem dX10_use_85 : decode cX10_use 85 = .ok (.iload_n 1, 1) := by decide +kernel
theorem dX10_use_86 : decode cX10_use 86 = .ok (.invokevirtual 118, 3) := by decide +kernel
theorem dX10_use_89 : decode cX10_use 89 = .ok (.ireturn, 1) := by decide +kernel
theorem dX10_giveBack_0 : decode cX10_giveBack 0 = .ok (.aload_n 0, 1) := by decide +kernel
theorem dX10_giveBack_1 : decode cX10_giveBack 1 = .ok (.getfield 26, 3) := by decide +kernel
theorem dX10_giveBack_4 : decode cX10_giveBack 4 = .ok (.getfield 106, 3) := by decide +kernel
theorem dX10_giveBack_7 : decode cX10_giveBack 7 = .ok (.iload_n 1, 1) := by decide +kernel
theorem dX10_giveBack_8 : decode cX10_giveBack 8 = .ok (.invokevirtual 110, 3) := by decide +kernel
theorem dX10_giveBack_11 : decode cX10_giveBack 11 = .ok (.ifCond .ne 5, 3) := by decide +kernel
theorem dX10_giveBack_14 : decode cX10_giveBack 14 = .ok (.iconst (-1), 1) := by decide +kernel
theorem dX10_giveBack_15 : decode cX10_giveBack 15 = .ok (.ireturn, 1) := by decide +kernel
theorem dX10_giveBack_16 : decode cX10_giveBack 16 = .ok (.aload_n 0, 1) := by decide +kernel
theorem dX10_giveBack_17 : decode cX10_giveBack 17 = .ok (.getfield 26, 3) := by decide +kernel
theorem dX10_giveBack_20 : decode cX10_giveBack 20 = .ok (.getfield 106, 3) := by decide +kernel
theorem dX10_giveBack_23 : decode cX10_giveBack 23 = .ok (.iload_n 1, 1) := by decide +kernel
theorem dX10_giveBack_24 : decode cX10_giveBack 24 = .ok (.invokevirtual 115, 3) := by decide +kernel
theorem dX10_giveBack_27 : decode cX10_giveBack 27 = .ok (.ifCond .ne 6, 3) := by decide +kernel
theorem dX10_giveBack_30 : decode cX10_giveBack 30 = .ok (.bipush (-2), 2) := by decide +kernel
theorem dX10_giveBack_32 : decode cX10_giveBack 32 = .ok (.ireturn, 1) := by decide +kernel
theorem dX10_giveBack_33 : decode cX10_giveBack 33 = .ok (.aload_n 0, 1) := by decide +kernel
theorem dX10_giveBack_34 : decode cX10_giveBack 34 = .ok (.getfield 33, 3) := by decide +kernel
theorem dX10_giveBack_37 : decode cX10_giveBack 37 = .ok (.aload_n 0, 1) := by decide +kernel
theorem dX10_giveBack_38 : decode cX10_giveBack 38 = .ok (.getfield 26, 3) := by decide +kernel
theorem dX10_giveBack_41 : decode cX10_giveBack 41 = .ok (.invokevirtual 99, 3) := by decide +kernel
theorem dX10_giveBack_44 : decode cX10_giveBack 44 = .ok (.aload_n 0, 1) := by decide +kernel
theorem dX10_giveBack_45 : decode cX10_giveBack 45 = .ok (.getfield 26, 3) := by decide +kernel
theorem dX10_giveBack_48 : decode cX10_giveBack 48 = .ok (.iload_n 1, 1) := by decide +kernel
theorem dX10_giveBack_49 : decode cX10_giveBack 49 = .ok (.iconst 2, 1) := by decide +kernel
theorem dX10_giveBack_50 : decode cX10_giveBack 50 = .ok (.invokevirtual 125, 3) := by decide +kernel
theorem dX10_giveBack_53 : decode cX10_giveBack 53 = .ok (.istore_n 2, 1) := by decide +kernel
theorem dX10_giveBack_54 : decode cX10_giveBack 54 = .ok (.aload_n 0, 1) := by decide +kernel
theorem dX10_giveBack_55 : decode cX10_giveBack 55 = .ok (.getfield 26, 3) := by decide +kernel
theorem dX10_giveBack_58 : decode cX10_giveBack 58 = .ok (.getfield 129, 3) := by decide +kernel
theorem dX10_giveBack_61 : decode cX10_giveBack 61 = .ok (.iconst 2, 1) := by decide +kernel
theorem dX10_giveBack_62 : decode cX10_giveBack 62 = .ok (.dup2, 1) := by decide +kernel
theorem dX10_giveBack_63 : decode cX10_giveBack 63 = .ok (.iaload, 1) := by decide +kernel
theorem dX10_giveBack_64 : decode cX10_giveBack 64 = .ok (.iload_n 2, 1) := by decide +kernel
theorem dX10_giveBack_65 : decode cX10_giveBack 65 = .ok (.iadd, 1) := by decide +kernel
theorem dX10_giveBack_66 : decode cX10_giveBack 66 = .ok (.iastore, 1) := by decide +kernel
theorem dX10_giveBack_67 : decode cX10_giveBack 67 = .ok (.iload_n 2, 1) := by decide +kernel
theorem dX10_giveBack_68 : decode cX10_giveBack 68 = .ok (.ireturn, 1) := by decide +kernel
theorem dX10_hand_0 : decode cX10_hand 0 = .ok (.aload_n 0, 1) := by decide +kernel
theorem dX10_hand_1 : decode cX10_hand 1 = .ok (.getfield 26, 3) := by decide +kernel
theorem dX10_hand_4 : decode cX10_hand 4 = .ok (.getfield 106, 3) := by decide +kernel
theorem dX10_hand_7 : decode cX10_hand 7 = .ok (.astore 4, 2) := by decide +kernel
theorem dX10_hand_9 : decode cX10_hand 9 = .ok (.aload 4, 2) := by decide +kernel
theorem dX10_hand_11 : decode cX10_hand 11 = .ok (.iload_n 1, 1) := by decide +kernel
theorem dX10_hand_12 : decode cX10_hand 12 = .ok (.invokevirtual 110, 3) := by decide +kernel
theorem dX10_hand_15 : decode cX10_hand 15 = .ok (.ifCond .eq 32, 3) := by decide +kernel
theorem dX10_hand_18 : decode cX10_hand 18 = .ok (.aload_n 0, 1) := by decide +kernel
theorem dX10_hand_19 : decode cX10_hand 19 = .ok (.getfield 26, 3) := by decide +kernel
theorem dX10_hand_22 : decode cX10_hand 22 = .ok (.iload_n 2, 1) := by decide +kernel
theorem dX10_hand_23 : decode cX10_hand 23 = .ok (.invokevirtual 133, 3) := by decide +kernel
theorem dX10_hand_26 : decode cX10_hand 26 = .ok (.ifCond .eq 21, 3) := by decide +kernel
theorem dX10_hand_29 : decode cX10_hand 29 = .ok (.iload_n 3, 1) := by decide +kernel
theorem dX10_hand_30 : decode cX10_hand 30 = .ok (.invokestatic 91, 3) := by decide +kernel
theorem dX10_hand_33 : decode cX10_hand 33 = .ok (.ifCond .eq 14, 3) := by decide +kernel
theorem dX10_hand_36 : decode cX10_hand 36 = .ok (.aload 4, 2) := by decide +kernel
theorem dX10_hand_38 : decode cX10_hand 38 = .ok (.getfield 136, 3) := by decide +kernel
theorem dX10_hand_41 : decode cX10_hand 41 = .ok (.iload_n 1, 1) := by decide +kernel
theorem dX10_hand_42 : decode cX10_hand 42 = .ok (.iaload, 1) := by decide +kernel
theorem dX10_hand_43 : decode cX10_hand 43 = .ok (.iload_n 2, 1) := by decide +kernel
theorem dX10_hand_44 : decode cX10_hand 44 = .ok (.if_icmp .ne 5, 3) := by decide +kernel
theorem dX10_hand_47 : decode cX10_hand 47 = .ok (.iconst (-1), 1) := by decide +kernel
theorem dX10_hand_48 : decode cX10_hand 48 = .ok (.ireturn, 1) := by decide +kernel
theorem dX10_hand_49 : decode cX10_hand 49 = .ok (.aload 4, 2) := by decide +kernel
theorem dX10_hand_51 : decode cX10_hand 51 = .ok (.getfield 139, 3) := by decide +kernel
theorem dX10_hand_54 : decode cX10_hand 54 = .ok (.bipush 60, 2) := by decide +kernel
theorem dX10_hand_56 : decode cX10_hand 56 = .ok (.if_icmp .lt 6, 3) := by decide +kernel
theorem dX10_hand_59 : decode cX10_hand 59 = .ok (.bipush (-2), 2) := by decide +kernel
theorem dX10_hand_61 : decode cX10_hand 61 = .ok (.ireturn, 1) := by decide +kernel
theorem dX10_hand_62 : decode cX10_hand 62 = .ok (.aload 4, 2) := by decide +kernel
theorem dX10_hand_64 : decode cX10_hand 64 = .ok (.iload_n 1, 1) := by decide +kernel
theorem dX10_hand_65 : decode cX10_hand 65 = .ok (.invokevirtual 115, 3) := by decide +kernel
theorem dX10_hand_68 : decode cX10_hand 68 = .ok (.ifCond .ne 6, 3) := by decide +kernel
theorem dX10_hand_71 : decode cX10_hand 71 = .ok (.bipush (-3), 2) := by decide +kernel
theorem dX10_hand_73 : decode cX10_hand 73 = .ok (.ireturn, 1) := by decide +kernel
theorem dX10_hand_74 : decode cX10_hand 74 = .ok (.aload 4, 2) := by decide +kernel
theorem dX10_hand_76 : decode cX10_hand 76 = .ok (.iload_n 1, 1) := by decide +kernel
theorem dX10_hand_77 : decode cX10_hand 77 = .ok (.invokevirtual 118, 3) := by decide +kernel
theorem dX10_hand_80 : decode cX10_hand 80 = .ok (.iload_n 3, 1) := by decide +kernel
theorem dX10_hand_81 : decode cX10_hand 81 = .ok (.if_icmp .ge 6, 3) := by decide +kernel
theorem dX10_hand_84 : decode cX10_hand 84 = .ok (.bipush (-4), 2) := by decide +kernel
theorem dX10_hand_86 : decode cX10_hand 86 = .ok (.ireturn, 1) := by decide +kernel
theorem dX10_hand_87 : decode cX10_hand 87 = .ok (.aload_n 0, 1) := by decide +kernel
theorem dX10_hand_88 : decode cX10_hand 88 = .ok (.getfield 33, 3) := by decide +kernel
theorem dX10_hand_91 : decode cX10_hand 91 = .ok (.aload_n 0, 1) := by decide +kernel
theorem dX10_hand_92 : decode cX10_hand 92 = .ok (.getfield 26, 3) := by decide +kernel
theorem dX10_hand_95 : decode cX10_hand 95 = .ok (.invokevirtual 99, 3) := by decide +kernel
theorem dX10_hand_98 : decode cX10_hand 98 = .ok (.aload 4, 2) := by decide +kernel
theorem dX10_hand_100 : decode cX10_hand 100 = .ok (.iload_n 1, 1) := by decide +kernel
theorem dX10_hand_101 : decode cX10_hand 101 = .ok (.iload_n 2, 1) := by decide +kernel
theorem dX10_hand_102 : decode cX10_hand 102 = .ok (.iload_n 3, 1) := by decide +kernel
theorem dX10_hand_103 : decode cX10_hand 103 = .ok (.aload_n 0, 1) := by decide +kernel
theorem dX10_hand_104 : decode cX10_hand 104 = .ok (.getfield 26, 3) := by decide +kernel
theorem dX10_hand_107 : decode cX10_hand 107 = .ok (.getfield 142, 3) := by decide +kernel
theorem dX10_hand_110 : decode cX10_hand 110 = .ok (.invokevirtual 145, 3) := by decide +kernel
theorem dX10_hand_113 : decode cX10_hand 113 = .ok (.ireturn, 1) := by decide +kernel
theorem dX10_merge_0 : decode cX10_merge 0 = .ok (.aload_n 0, 1) := by decide +kernel
theorem dX10_merge_1 : decode cX10_merge 1 = .ok (.getfield 26, 3) := by decide +kernel
theorem dX10_merge_4 : decode cX10_merge 4 = .ok (.getfield 106, 3) := by decide +kernel
theorem dX10_merge_7 : decode cX10_merge 7 = .ok (.astore_n 3, 1) := by decide +kernel
theorem dX10_merge_8 : decode cX10_merge 8 = .ok (.aload_n 3, 1) := by decide +kernel
theorem dX10_merge_9 : decode cX10_merge 9 = .ok (.iload_n 1, 1) := by decide +kernel
theorem dX10_merge_10 : decode cX10_merge 10 = .ok (.invokevirtual 110, 3) := by decide +kernel
theorem dX10_merge_13 : decode cX10_merge 13 = .ok (.ifCond .eq 16, 3) := by decide +kernel
theorem dX10_merge_16 : decode cX10_merge 16 = .ok (.aload_n 3, 1) := by decide +kernel
theorem dX10_merge_17 : decode cX10_merge 17 = .ok (.iload_n 2, 1) := by decide +kernel
theorem dX10_merge_18 : decode cX10_merge 18 = .ok (.invokevirtual 110, 3) := by decide +kernel
theorem dX10_merge_21 : decode cX10_merge 21 = .ok (.ifCond .eq 8, 3) := by decide +kernel
theorem dX10_merge_24 : decode cX10_merge 24 = .ok (.iload_n 1, 1) := by decide +kernel
theorem dX10_merge_25 : decode cX10_merge 25 = .ok (.iload_n 2, 1) := by decide +kernel
theorem dX10_merge_26 : decode cX10_merge 26 = .ok (.if_icmp .ne 5, 3) := by decide +kernel
theorem dX10_merge_29 : decode cX10_merge 29 = .ok (.iconst (-1), 1) := by decide +kernel
theorem dX10_merge_30 : decode cX10_merge 30 = .ok (.ireturn, 1) := by decide +kernel
theorem dX10_merge_31 : decode cX10_merge 31 = .ok (.aload_n 3, 1) := by decide +kernel
theorem dX10_merge_32 : decode cX10_merge 32 = .ok (.iload_n 1, 1) := by decide +kernel
theorem dX10_merge_33 : decode cX10_merge 33 = .ok (.invokevirtual 115, 3) := by decide +kernel
theorem dX10_merge_36 : decode cX10_merge 36 = .ok (.ifCond .eq 11, 3) := by decide +kernel
theorem dX10_merge_39 : decode cX10_merge 39 = .ok (.aload_n 3, 1) := by decide +kernel
theorem dX10_merge_40 : decode cX10_merge 40 = .ok (.iload_n 2, 1) := by decide +kernel
theorem dX10_merge_41 : decode cX10_merge 41 = .ok (.invokevirtual 115, 3) := by decide +kernel
theorem dX10_merge_44 : decode cX10_merge 44 = .ok (.ifCond .ne 6, 3) := by decide +kernel
theorem dX10_merge_47 : decode cX10_merge 47 = .ok (.bipush (-2), 2) := by decide +kernel
theorem dX10_merge_49 : decode cX10_merge 49 = .ok (.ireturn, 1) := by decide +kernel
theorem dX10_merge_50 : decode cX10_merge 50 = .ok (.aload_n 3, 1) := by decide +kernel
theorem dX10_merge_51 : decode cX10_merge 51 = .ok (.iload_n 1, 1) := by decide +kernel
theorem dX10_merge_52 : decode cX10_merge 52 = .ok (.iload_n 2, 1) := by decide +kernel
theorem dX10_merge_53 : decode cX10_merge 53 = .ok (.invokevirtual 149, 3) := by decide +kernel
theorem dX10_merge_56 : decode cX10_merge 56 = .ok (.ifCond .ne 6, 3) := by decide +kernel
theorem dX10_merge_59 : decode cX10_merge 59 = .ok (.bipush (-3), 2) := by decide +kernel
theorem dX10_merge_61 : decode cX10_merge 61 = .ok (.ireturn, 1) := by decide +kernel
theorem dX10_merge_62 : decode cX10_merge 62 = .ok (.aload_n 0, 1) := by decide +kernel
theorem dX10_merge_63 : decode cX10_merge 63 = .ok (.getfield 33, 3) := by decide +kernel
theorem dX10_merge_66 : decode cX10_merge 66 = .ok (.aload_n 0, 1) := by decide +kernel
theorem dX10_merge_67 : decode cX10_merge 67 = .ok (.getfield 26, 3) := by decide +kernel
theorem dX10_merge_70 : decode cX10_merge 70 = .ok (.invokevirtual 99, 3) := by decide +kernel
theorem dX10_merge_73 : decode cX10_merge 73 = .ok (.aload_n 3, 1) := by decide +kernel
theorem dX10_merge_74 : decode cX10_merge 74 = .ok (.iload_n 1, 1) := by decide +kernel
theorem dX10_merge_75 : decode cX10_merge 75 = .ok (.iload_n 2, 1) := by decide +kernel
theorem dX10_merge_76 : decode cX10_merge 76 = .ok (.aload_n 0, 1) := by decide +kernel
theorem dX10_merge_77 : decode cX10_merge 77 = .ok (.getfield 26, 3) := by decide +kernel
theorem dX10_merge_80 : decode cX10_merge 80 = .ok (.getfield 142, 3) := by decide +kernel
theorem dX10_merge_83 : decode cX10_merge 83 = .ok (.invokevirtual 152, 3) := by decide +kernel
theorem dX10_merge_86 : decode cX10_merge 86 = .ok (.aload_n 3, 1) := by decide +kernel
theorem dX10_merge_87 : decode cX10_merge 87 = .ok (.iload_n 1, 1) := by decide +kernel
theorem dX10_merge_88 : decode cX10_merge 88 = .ok (.invokevirtual 118, 3) := by decide +kernel
theorem dX10_merge_91 : decode cX10_merge 91 = .ok (.ireturn, 1) := by decide +kernel
theorem dX10_lend_0 : decode cX10_lend 0 = .ok (.aload_n 0, 1) := by decide +kernel
theorem dX10_lend_1 : decode cX10_lend 1 = .ok (.getfield 26, 3) := by decide +kernel
theorem dX10_lend_4 : decode cX10_lend 4 = .ok (.iload_n 1, 1) := by decide +kernel
theorem dX10_lend_5 : decode cX10_lend 5 = .ok (.iload_n 3, 1) := by decide +kernel
theorem dX10_lend_6 : decode cX10_lend 6 = .ok (.invokevirtual 87, 3) := by decide +kernel
theorem dX10_lend_9 : decode cX10_lend 9 = .ok (.ifCond .eq 27, 3) := by decide +kernel
theorem dX10_lend_12 : decode cX10_lend 12 = .ok (.aload_n 0, 1) := by decide +kernel
theorem dX10_lend_13 : decode cX10_lend 13 = .ok (.getfield 26, 3) := by decide +kernel
theorem dX10_lend_16 : decode cX10_lend 16 = .ok (.iload_n 2, 1) := by decide +kernel
theorem dX10_lend_17 : decode cX10_lend 17 = .ok (.invokevirtual 133, 3) := by decide +kernel
theorem dX10_lend_20 : decode cX10_lend 20 = .ok (.ifCond .eq 16, 3) := by decide +kernel
theorem dX10_lend_23 : decode cX10_lend 23 = .ok (.iload 4, 2) := by decide +kernel
theorem dX10_lend_25 : decode cX10_lend 25 = .ok (.invokestatic 91, 3) := by decide +kernel
theorem dX10_lend_28 : decode cX10_lend 28 = .ok (.ifCond .eq 8, 3) := by decide +kernel
theorem dX10_lend_31 : decode cX10_lend 31 = .ok (.iload_n 1, 1) := by decide +kernel
theorem dX10_lend_32 : decode cX10_lend 32 = .ok (.iload_n 2, 1) := by decide +kernel
theorem dX10_lend_33 : decode cX10_lend 33 = .ok (.if_icmp .ne 5, 3) := by decide +kernel
theorem dX10_lend_36 : decode cX10_lend 36 = .ok (.iconst (-1), 1) := by decide +kernel
theorem dX10_lend_37 : decode cX10_lend 37 = .ok (.ireturn, 1) := by decide +kernel
theorem dX10_lend_38 : decode cX10_lend 38 = .ok (.aload_n 0, 1) := by decide +kernel
theorem dX10_lend_39 : decode cX10_lend 39 = .ok (.getfield 26, 3) := by decide +kernel
theorem dX10_lend_42 : decode cX10_lend 42 = .ok (.getfield 156, 3) := by decide +kernel
theorem dX10_lend_45 : decode cX10_lend 45 = .ok (.astore 5, 2) := by decide +kernel
theorem dX10_lend_47 : decode cX10_lend 47 = .ok (.iload_n 1, 1) := by decide +kernel
theorem dX10_lend_48 : decode cX10_lend 48 = .ok (.iload_n 3, 1) := by decide +kernel
theorem dX10_lend_49 : decode cX10_lend 49 = .ok (.invokestatic 160, 3) := by decide +kernel
theorem dX10_lend_52 : decode cX10_lend 52 = .ok (.istore 6, 2) := by decide +kernel
theorem dX10_lend_54 : decode cX10_lend 54 = .ok (.iload_n 2, 1) := by decide +kernel
theorem dX10_lend_55 : decode cX10_lend 55 = .ok (.iload_n 3, 1) := by decide +kernel
theorem dX10_lend_56 : decode cX10_lend 56 = .ok (.invokestatic 160, 3) := by decide +kernel
theorem dX10_lend_59 : decode cX10_lend 59 = .ok (.istore 7, 2) := by decide +kernel
theorem dX10_lend_61 : decode cX10_lend 61 = .ok (.aload 5, 2) := by decide +kernel
theorem dX10_lend_63 : decode cX10_lend 63 = .ok (.iload 6, 2) := by decide +kernel
theorem dX10_lend_65 : decode cX10_lend 65 = .ok (.invokevirtual 163, 3) := by decide +kernel
theorem dX10_lend_68 : decode cX10_lend 68 = .ok (.ifCond .eq 13, 3) := by decide +kernel
theorem dX10_lend_71 : decode cX10_lend 71 = .ok (.aload 5, 2) := by decide +kernel
theorem dX10_lend_73 : decode cX10_lend 73 = .ok (.iload 7, 2) := by decide +kernel
theorem dX10_lend_75 : decode cX10_lend 75 = .ok (.invokevirtual 163, 3) := by decide +kernel
theorem dX10_lend_78 : decode cX10_lend 78 = .ok (.ifCond .ne 6, 3) := by decide +kernel
theorem dX10_lend_81 : decode cX10_lend 81 = .ok (.bipush (-2), 2) := by decide +kernel
theorem dX10_lend_83 : decode cX10_lend 83 = .ok (.ireturn, 1) := by decide +kernel
theorem dX10_lend_84 : decode cX10_lend 84 = .ok (.aload 5, 2) := by decide +kernel
theorem dX10_lend_86 : decode cX10_lend 86 = .ok (.getfield 168, 3) := by decide +kernel
theorem dX10_lend_89 : decode cX10_lend 89 = .ok (.iload 6, 2) := by decide +kernel
theorem dX10_lend_91 : decode cX10_lend 91 = .ok (.iaload, 1) := by decide +kernel
theorem dX10_lend_92 : decode cX10_lend 92 = .ok (.iload 4, 2) := by decide +kernel
theorem dX10_lend_94 : decode cX10_lend 94 = .ok (.if_icmp .ge 6, 3) := by decide +kernel
theorem dX10_lend_97 : decode cX10_lend 97 = .ok (.bipush (-3), 2) := by decide +kernel
theorem dX10_lend_99 : decode cX10_lend 99 = .ok (.ireturn, 1) := by decide +kernel
theorem dX10_lend_100 : decode cX10_lend 100 = .ok (.aload_n 0, 1) := by decide +kernel
theorem dX10_lend_101 : decode cX10_lend 101 = .ok (.getfield 33, 3) := by decide +kernel
theorem dX10_lend_104 : decode cX10_lend 104 = .ok (.aload_n 0, 1) := by decide +kernel
theorem dX10_lend_105 : decode cX10_lend 105 = .ok (.getfield 26, 3) := by decide +kernel
theorem dX10_lend_108 : decode cX10_lend 108 = .ok (.invokevirtual 99, 3) := by decide +kernel
theorem dX10_lend_111 : decode cX10_lend 111 = .ok (.aload 5, 2) := by decide +kernel
theorem dX10_lend_113 : decode cX10_lend 113 = .ok (.getfield 168, 3) := by decide +kernel
theorem dX10_lend_116 : decode cX10_lend 116 = .ok (.iload 6, 2) := by decide +kernel
theorem dX10_lend_118 : decode cX10_lend 118 = .ok (.dup2, 1) := by decide +kernel
theorem dX10_lend_119 : decode cX10_lend 119 = .ok (.iaload, 1) := by decide +kernel
theorem dX10_lend_120 : decode cX10_lend 120 = .ok (.iload 4, 2) := by decide +kernel
theorem dX10_lend_122 : decode cX10_lend 122 = .ok (.isub, 1) := by decide +kernel
theorem dX10_lend_123 : decode cX10_lend 123 = .ok (.iastore, 1) := by decide +kernel
theorem dX10_lend_124 : decode cX10_lend 124 = .ok (.aload 5, 2) := by decide +kernel
theorem dX10_lend_126 : decode cX10_lend 126 = .ok (.getfield 168, 3) := by decide +kernel
theorem dX10_lend_129 : decode cX10_lend 129 = .ok (.iload 7, 2) := by decide +kernel
theorem dX10_lend_131 : decode cX10_lend 131 = .ok (.dup2, 1) := by decide +kernel
theorem dX10_lend_132 : decode cX10_lend 132 = .ok (.iaload, 1) := by decide +kernel
theorem dX10_lend_133 : decode cX10_lend 133 = .ok (.iload 4, 2) := by decide +kernel
theorem dX10_lend_135 : decode cX10_lend 135 = .ok (.iadd, 1) := by decide +kernel
theorem dX10_lend_136 : decode cX10_lend 136 = .ok (.iastore, 1) := by decide +kernel
theorem dX10_lend_137 : decode cX10_lend 137 = .ok (.aload 5, 2) := by decide +kernel
theorem dX10_lend_139 : decode cX10_lend 139 = .ok (.getfield 168, 3) := by decide +kernel
theorem dX10_lend_142 : decode cX10_lend 142 = .ok (.iload 6, 2) := by decide +kernel
theorem dX10_lend_144 : decode cX10_lend 144 = .ok (.iaload, 1) := by decide +kernel
theorem dX10_lend_145 : decode cX10_lend 145 = .ok (.ireturn, 1) := by decide +kernel
theorem dX10_excess_0 : decode cX10_excess 0 = .ok (.aload_n 0, 1) := by decide +kernel
theorem dX10_excess_1 : decode cX10_excess 1 = .ok (.getfield 26, 3) := by decide +kernel
theorem dX10_excess_4 : decode cX10_excess 4 = .ok (.iload_n 1, 1) := by decide +kernel
theorem dX10_excess_5 : decode cX10_excess 5 = .ok (.iload_n 2, 1) := by decide +kernel
theorem dX10_excess_6 : decode cX10_excess 6 = .ok (.invokevirtual 87, 3) := by decide +kernel
theorem dX10_excess_9 : decode cX10_excess 9 = .ok (.ifCond .eq 24, 3) := by decide +kernel
theorem dX10_excess_12 : decode cX10_excess 12 = .ok (.iload_n 3, 1) := by decide +kernel
theorem dX10_excess_13 : decode cX10_excess 13 = .ok (.invokestatic 91, 3) := by decide +kernel
theorem dX10_excess_16 : decode cX10_excess 16 = .ok (.ifCond .eq 17, 3) := by decide +kernel
theorem dX10_excess_19 : decode cX10_excess 19 = .ok (.iload 4, 2) := by decide +kernel
theorem dX10_excess_21 : decode cX10_excess 21 = .ok (.iconst 1, 1) := by decide +kernel
theorem dX10_excess_22 : decode cX10_excess 22 = .ok (.if_icmp .lt 11, 3) := by decide +kernel
theorem dX10_excess_25 : decode cX10_excess 25 = .ok (.iload 4, 2) := by decide +kernel
theorem dX10_excess_27 : decode cX10_excess 27 = .ok (.sipush 9999, 3) := by decide +kernel
theorem dX10_excess_30 : decode cX10_excess 30 = .ok (.if_icmp .le 7, 3) := by decide +kernel
theorem dX10_excess_33 : decode cX10_excess 33 = .ok (.ldc2_w 171, 3) := by decide +kernel
theorem dX10_excess_36 : decode cX10_excess 36 = .ok (.lreturn, 1) := by decide +kernel
theorem dX10_excess_37 : decode cX10_excess 37 = .ok (.aload_n 0, 1) := by decide +kernel
theorem dX10_excess_38 : decode cX10_excess 38 = .ok (.getfield 33, 3) := by decide +kernel
theorem dX10_excess_41 : decode cX10_excess 41 = .ok (.aload_n 0, 1) := by decide +kernel
theorem dX10_excess_42 : decode cX10_excess 42 = .ok (.getfield 26, 3) := by decide +kernel
theorem dX10_excess_45 : decode cX10_excess 45 = .ok (.invokevirtual 99, 3) := by decide +kernel
theorem dX10_excess_48 : decode cX10_excess 48 = .ok (.aload_n 0, 1) := by decide +kernel
theorem dX10_excess_49 : decode cX10_excess 49 = .ok (.getfield 26, 3) := by decide +kernel
theorem dX10_excess_52 : decode cX10_excess 52 = .ok (.iload_n 1, 1) := by decide +kernel
theorem dX10_excess_53 : decode cX10_excess 53 = .ok (.iload_n 2, 1) := by decide +kernel
theorem dX10_excess_54 : decode cX10_excess 54 = .ok (.iload_n 3, 1) := by decide +kernel
theorem dX10_excess_55 : decode cX10_excess 55 = .ok (.iload 4, 2) := by decide +kernel
theorem dX10_excess_57 : decode cX10_excess 57 = .ok (.invokevirtual 173, 3) := by decide +kernel
theorem dX10_excess_60 : decode cX10_excess 60 = .ok (.invokestatic 177, 3) := by decide +kernel
theorem dX10_excess_63 : decode cX10_excess 63 = .ok (.lreturn, 1) := by decide +kernel
theorem dX10_days_0 : decode cX10_days 0 = .ok (.aload_n 0, 1) := by decide +kernel
theorem dX10_days_1 : decode cX10_days 1 = .ok (.getfield 26, 3) := by decide +kernel
theorem dX10_days_4 : decode cX10_days 4 = .ok (.invokevirtual 181, 3) := by decide +kernel
theorem dX10_days_7 : decode cX10_days 7 = .ok (.ifCond .eq 10, 3) := by decide +kernel
theorem dX10_days_10 : decode cX10_days 10 = .ok (.iload_n 1, 1) := by decide +kernel
theorem dX10_days_11 : decode cX10_days 11 = .ok (.invokestatic 185, 3) := by decide +kernel
theorem dX10_days_14 : decode cX10_days 14 = .ok (.ifCond .ne 5, 3) := by decide +kernel
theorem dX10_days_17 : decode cX10_days 17 = .ok (.iconst (-1), 1) := by decide +kernel
theorem dX10_days_18 : decode cX10_days 18 = .ok (.ireturn, 1) := by decide +kernel
theorem dX10_days_19 : decode cX10_days 19 = .ok (.aload_n 0, 1) := by decide +kernel
theorem dX10_days_20 : decode cX10_days 20 = .ok (.getfield 26, 3) := by decide +kernel
theorem dX10_days_23 : decode cX10_days 23 = .ok (.getfield 142, 3) := by decide +kernel
theorem dX10_days_26 : decode cX10_days 26 = .ok (.iload_n 1, 1) := by decide +kernel
theorem dX10_days_27 : decode cX10_days 27 = .ok (.iadd, 1) := by decide +kernel
theorem dX10_days_28 : decode cX10_days 28 = .ok (.sipush 3600, 3) := by decide +kernel
theorem dX10_days_31 : decode cX10_days 31 = .ok (.if_icmp .le 6, 3) := by decide +kernel
theorem dX10_days_34 : decode cX10_days 34 = .ok (.bipush (-2), 2) := by decide +kernel
theorem dX10_days_36 : decode cX10_days 36 = .ok (.ireturn, 1) := by decide +kernel
theorem dX10_days_37 : decode cX10_days 37 = .ok (.aload_n 0, 1) := by decide +kernel
theorem dX10_days_38 : decode cX10_days 38 = .ok (.getfield 33, 3) := by decide +kernel
theorem dX10_days_41 : decode cX10_days 41 = .ok (.aload_n 0, 1) := by decide +kernel
theorem dX10_days_42 : decode cX10_days 42 = .ok (.getfield 26, 3) := by decide +kernel
theorem dX10_days_45 : decode cX10_days 45 = .ok (.invokevirtual 99, 3) := by decide +kernel
theorem dX10_days_48 : decode cX10_days 48 = .ok (.iconst 0, 1) := by decide +kernel
theorem dX10_days_49 : decode cX10_days 49 = .ok (.istore_n 2, 1) := by decide +kernel
theorem dX10_days_50 : decode cX10_days 50 = .ok (.iconst 0, 1) := by decide +kernel
theorem dX10_days_51 : decode cX10_days 51 = .ok (.istore_n 3, 1) := by decide +kernel
theorem dX10_days_52 : decode cX10_days 52 = .ok (.iload_n 3, 1) := by decide +kernel
theorem dX10_days_53 : decode cX10_days 53 = .ok (.iload_n 1, 1) := by decide +kernel
theorem dX10_days_54 : decode cX10_days 54 = .ok (.if_icmp .ge 19, 3) := by decide +kernel
theorem dX10_days_57 : decode cX10_days 57 = .ok (.iload_n 2, 1) := by decide +kernel
theorem dX10_days_58 : decode cX10_days 58 = .ok (.aload_n 0, 1) := by decide +kernel
theorem dX10_days_59 : decode cX10_days 59 = .ok (.getfield 26, 3) := by decide +kernel
theorem dX10_days_62 : decode cX10_days 62 = .ok (.invokevirtual 188, 3) := by decide +kernel
theorem dX10_days_65 : decode cX10_days 65 = .ok (.iadd, 1) := by decide +kernel
theorem dX10_days_66 : decode cX10_days 66 = .ok (.istore_n 2, 1) := by decide +kernel
theorem dX10_days_67 : decode cX10_days 67 = .ok (.iinc 3 1, 3) := by decide +kernel
theorem dX10_days_70 : decode cX10_days 70 = .ok (.goto (-18), 3) := by decide +kernel
theorem dX10_days_73 : decode cX10_days 73 = .ok (.iload_n 2, 1) := by decide +kernel
theorem dX10_days_74 : decode cX10_days 74 = .ok (.ireturn, 1) := by decide +kernel
theorem dX10_widen_0 : decode cX10_widen 0 = .ok (.aload_n 0, 1) := by decide +kernel
theorem dX10_widen_1 : decode cX10_widen 1 = .ok (.getfield 26, 3) := by decide +kernel
theorem dX10_widen_4 : decode cX10_widen 4 = .ok (.iload_n 1, 1) := by decide +kernel
theorem dX10_widen_5 : decode cX10_widen 5 = .ok (.invokevirtual 191, 3) := by decide +kernel
theorem dX10_widen_8 : decode cX10_widen 8 = .ok (.ifCond .eq 13, 3) := by decide +kernel
theorem dX10_widen_11 : decode cX10_widen 11 = .ok (.iload_n 2, 1) := by decide +kernel
theorem dX10_widen_12 : decode cX10_widen 12 = .ok (.ifCond .lt 9, 3) := by decide +kernel
theorem dX10_widen_15 : decode cX10_widen 15 = .ok (.iload_n 2, 1) := by decide +kernel
theorem dX10_widen_16 : decode cX10_widen 16 = .ok (.ldc 194, 2) := by decide +kernel
theorem dX10_widen_18 : decode cX10_widen 18 = .ok (.if_icmp .le 5, 3) := by decide +kernel
theorem dX10_widen_21 : decode cX10_widen 21 = .ok (.iconst (-1), 1) := by decide +kernel
theorem dX10_widen_22 : decode cX10_widen 22 = .ok (.ireturn, 1) := by decide +kernel
theorem dX10_widen_23 : decode cX10_widen 23 = .ok (.aload_n 0, 1) := by decide +kernel
theorem dX10_widen_24 : decode cX10_widen 24 = .ok (.getfield 26, 3) := by decide +kernel
theorem dX10_widen_27 : decode cX10_widen 27 = .ok (.getfield 81, 3) := by decide +kernel
theorem dX10_widen_30 : decode cX10_widen 30 = .ok (.getfield 195, 3) := by decide +kernel
theorem dX10_widen_33 : decode cX10_widen 33 = .ok (.iload_n 1, 1) := by decide +kernel
theorem dX10_widen_34 : decode cX10_widen 34 = .ok (.iaload, 1) := by decide +kernel
theorem dX10_widen_35 : decode cX10_widen 35 = .ok (.istore_n 3, 1) := by decide +kernel
theorem dX10_widen_36 : decode cX10_widen 36 = .ok (.iload_n 3, 1) := by decide +kernel
theorem dX10_widen_37 : decode cX10_widen 37 = .ok (.iload_n 2, 1) := by decide +kernel
theorem dX10_widen_38 : decode cX10_widen 38 = .ok (.if_icmp .ne 6, 3) := by decide +kernel
theorem dX10_widen_41 : decode cX10_widen 41 = .ok (.bipush (-2), 2) := by decide +kernel
theorem dX10_widen_43 : decode cX10_widen 43 = .ok (.ireturn, 1) := by decide +kernel
theorem dX10_widen_44 : decode cX10_widen 44 = .ok (.aload_n 0, 1) := by decide +kernel
theorem dX10_widen_45 : decode cX10_widen 45 = .ok (.getfield 33, 3) := by decide +kernel
theorem dX10_widen_48 : decode cX10_widen 48 = .ok (.aload_n 0, 1) := by decide +kernel
theorem dX10_widen_49 : decode cX10_widen 49 = .ok (.getfield 26, 3) := by decide +kernel
theorem dX10_widen_52 : decode cX10_widen 52 = .ok (.invokevirtual 99, 3) := by decide +kernel
theorem dX10_widen_55 : decode cX10_widen 55 = .ok (.aload_n 0, 1) := by decide +kernel
theorem dX10_widen_56 : decode cX10_widen 56 = .ok (.getfield 26, 3) := by decide +kernel
theorem dX10_widen_59 : decode cX10_widen 59 = .ok (.getfield 81, 3) := by decide +kernel
theorem dX10_widen_62 : decode cX10_widen 62 = .ok (.getfield 195, 3) := by decide +kernel
theorem dX10_widen_65 : decode cX10_widen 65 = .ok (.iload_n 1, 1) := by decide +kernel
theorem dX10_widen_66 : decode cX10_widen 66 = .ok (.iload_n 2, 1) := by decide +kernel
theorem dX10_widen_67 : decode cX10_widen 67 = .ok (.iastore, 1) := by decide +kernel
theorem dX10_widen_68 : decode cX10_widen 68 = .ok (.iload_n 3, 1) := by decide +kernel
theorem dX10_widen_69 : decode cX10_widen 69 = .ok (.ireturn, 1) := by decide +kernel
theorem dX10_set_0 : decode cX10_set 0 = .ok (.aload_n 0, 1) := by decide +kernel
theorem dX10_set_1 : decode cX10_set 1 = .ok (.getfield 26, 3) := by decide +kernel
theorem dX10_set_4 : decode cX10_set 4 = .ok (.invokevirtual 181, 3) := by decide +kernel
theorem dX10_set_7 : decode cX10_set 7 = .ok (.ifCond .eq 28, 3) := by decide +kernel
theorem dX10_set_10 : decode cX10_set 10 = .ok (.iload_n 1, 1) := by decide +kernel
theorem dX10_set_11 : decode cX10_set 11 = .ok (.invokestatic 198, 3) := by decide +kernel
theorem dX10_set_14 : decode cX10_set 14 = .ok (.ifCond .eq 21, 3) := by decide +kernel
theorem dX10_set_17 : decode cX10_set 17 = .ok (.iload_n 2, 1) := by decide +kernel
theorem dX10_set_18 : decode cX10_set 18 = .ok (.getstatic 201, 3) := by decide +kernel
theorem dX10_set_21 : decode cX10_set 21 = .ok (.iload_n 1, 1) := by decide +kernel
theorem dX10_set_22 : decode cX10_set 22 = .ok (.iaload, 1) := by decide +kernel
theorem dX10_set_23 : decode cX10_set 23 = .ok (.if_icmp .lt 12, 3) := by decide +kernel
theorem dX10_set_26 : decode cX10_set 26 = .ok (.iload_n 2, 1) := by decide +kernel
theorem dX10_set_27 : decode cX10_set 27 = .ok (.getstatic 204, 3) := by decide +kernel
theorem dX10_set_30 : decode cX10_set 30 = .ok (.iload_n 1, 1) := by decide +kernel
theorem dX10_set_31 : decode cX10_set 31 = .ok (.iaload, 1) := by decide +kernel
theorem dX10_set_32 : decode cX10_set 32 = .ok (.if_icmp .le 5, 3) := by decide +kernel
theorem dX10_set_35 : decode cX10_set 35 = .ok (.iconst (-1), 1) := by decide +kernel
theorem dX10_set_36 : decode cX10_set 36 = .ok (.ireturn, 1) := by decide +kernel
theorem dX10_set_37 : decode cX10_set 37 = .ok (.aload_n 0, 1) := by decide +kernel
theorem dX10_set_38 : decode cX10_set 38 = .ok (.getfield 26, 3) := by decide +kernel
theorem dX10_set_41 : decode cX10_set 41 = .ok (.getfield 81, 3) := by decide +kernel
theorem dX10_set_44 : decode cX10_set 44 = .ok (.getfield 207, 3) := by decide +kernel
theorem dX10_set_47 : decode cX10_set 47 = .ok (.iload_n 1, 1) := by decide +kernel
theorem dX10_set_48 : decode cX10_set 48 = .ok (.iaload, 1) := by decide +kernel
theorem dX10_set_49 : decode cX10_set 49 = .ok (.istore_n 3, 1) := by decide +kernel
theorem dX10_set_50 : decode cX10_set 50 = .ok (.iload_n 3, 1) := by decide +kernel
theorem dX10_set_51 : decode cX10_set 51 = .ok (.iload_n 2, 1) := by decide +kernel
theorem dX10_set_52 : decode cX10_set 52 = .ok (.if_icmp .ne 6, 3) := by decide +kernel
theorem dX10_set_55 : decode cX10_set 55 = .ok (.bipush (-2), 2) := by decide +kernel
theorem dX10_set_57 : decode cX10_set 57 = .ok (.ireturn, 1) := by decide +kernel
theorem dX10_set_58 : decode cX10_set 58 = .ok (.aload_n 0, 1) := by decide +kernel
theorem dX10_set_59 : decode cX10_set 59 = .ok (.getfield 33, 3) := by decide +kernel
theorem dX10_set_62 : decode cX10_set 62 = .ok (.aload_n 0, 1) := by decide +kernel
theorem dX10_set_63 : decode cX10_set 63 = .ok (.getfield 26, 3) := by decide +kernel
theorem dX10_set_66 : decode cX10_set 66 = .ok (.invokevirtual 99, 3) := by decide +kernel
theorem dX10_set_69 : decode cX10_set 69 = .ok (.aload_n 0, 1) := by decide +kernel
theorem dX10_set_70 : decode cX10_set 70 = .ok (.getfield 26, 3) := by decide +kernel
theorem dX10_set_73 : decode cX10_set 73 = .ok (.getfield 81, 3) := by decide +kernel
theorem dX10_set_76 : decode cX10_set 76 = .ok (.getfield 207, 3) := by decide +kernel
theorem dX10_set_79 : decode cX10_set 79 = .ok (.iload_n 1, 1) := by decide +kernel
theorem dX10_set_80 : decode cX10_set 80 = .ok (.iload_n 2, 1) := by decide +kernel
theorem dX10_set_81 : decode cX10_set 81 = .ok (.iastore, 1) := by decide +kernel
theorem dX10_set_82 : decode cX10_set 82 = .ok (.iload_n 3, 1) := by decide +kernel
theorem dX10_set_83 : decode cX10_set 83 = .ok (.ireturn, 1) := by decide +kernel
theorem dX10_undo_0 : decode cX10_undo 0 = .ok (.aload_n 0, 1) := by decide +kernel
theorem dX10_undo_1 : decode cX10_undo 1 = .ok (.getfield 33, 3) := by decide +kernel
theorem dX10_undo_4 : decode cX10_undo 4 = .ok (.aload_n 0, 1) := by decide +kernel
theorem dX10_undo_5 : decode cX10_undo 5 = .ok (.getfield 26, 3) := by decide +kernel
theorem dX10_undo_8 : decode cX10_undo 8 = .ok (.invokevirtual 210, 3) := by decide +kernel
theorem dX10_undo_11 : decode cX10_undo 11 = .ok (.ireturn, 1) := by decide +kernel
theorem dX10_keep_0 : decode cX10_keep 0 = .ok (.iload_n 1, 1) := by decide +kernel
theorem dX10_keep_1 : decode cX10_keep 1 = .ok (.ifCond .lt 8, 3) := by decide +kernel
theorem dX10_keep_4 : decode cX10_keep 4 = .ok (.iload_n 1, 1) := by decide +kernel
theorem dX10_keep_5 : decode cX10_keep 5 = .ok (.iconst 2, 1) := by decide +kernel
theorem dX10_keep_6 : decode cX10_keep 6 = .ok (.if_icmp .lt 5, 3) := by decide +kernel
theorem dX10_keep_9 : decode cX10_keep 9 = .ok (.iconst (-1), 1) := by decide +kernel
theorem dX10_keep_10 : decode cX10_keep 10 = .ok (.ireturn, 1) := by decide +kernel
theorem dX10_keep_11 : decode cX10_keep 11 = .ok (.aload_n 0, 1) := by decide +kernel
theorem dX10_keep_12 : decode cX10_keep 12 = .ok (.getfield 37, 3) := by decide +kernel
theorem dX10_keep_15 : decode cX10_keep 15 = .ok (.iload_n 1, 1) := by decide +kernel
theorem dX10_keep_16 : decode cX10_keep 16 = .ok (.aaload, 1) := by decide +kernel
theorem dX10_keep_17 : decode cX10_keep 17 = .ok (.astore_n 2, 1) := by decide +kernel
theorem dX10_keep_18 : decode cX10_keep 18 = .ok (.aload_n 2, 1) := by decide +kernel
theorem dX10_keep_19 : decode cX10_keep 19 = .ok (.ifnonnull 18, 3) := by decide +kernel
theorem dX10_keep_22 : decode cX10_keep 22 = .ok (.new 23, 3) := by decide +kernel
theorem dX10_keep_25 : decode cX10_keep 25 = .ok (.dup, 1) := by decide +kernel
theorem dX10_keep_26 : decode cX10_keep 26 = .ok (.invokespecial 25, 3) := by decide +kernel
theorem dX10_keep_29 : decode cX10_keep 29 = .ok (.astore_n 2, 1) := by decide +kernel
theorem dX10_keep_30 : decode cX10_keep 30 = .ok (.aload_n 0, 1) := by decide +kernel
theorem dX10_keep_31 : decode cX10_keep 31 = .ok (.getfield 37, 3) := by decide +kernel
theorem dX10_keep_34 : decode cX10_keep 34 = .ok (.iload_n 1, 1) := by decide +kernel
theorem dX10_keep_35 : decode cX10_keep 35 = .ok (.aload_n 2, 1) := by decide +kernel
theorem dX10_keep_36 : decode cX10_keep 36 = .ok (.aastore, 1) := by decide +kernel
theorem dX10_keep_37 : decode cX10_keep 37 = .ok (.aload_n 2, 1) := by decide +kernel
theorem dX10_keep_38 : decode cX10_keep 38 = .ok (.aload_n 0, 1) := by decide +kernel
theorem dX10_keep_39 : decode cX10_keep 39 = .ok (.getfield 26, 3) := by decide +kernel
theorem dX10_keep_42 : decode cX10_keep 42 = .ok (.invokevirtual 214, 3) := by decide +kernel
theorem dX10_keep_45 : decode cX10_keep 45 = .ok (.aload_n 0, 1) := by decide +kernel
theorem dX10_keep_46 : decode cX10_keep 46 = .ok (.getfield 26, 3) := by decide +kernel
theorem dX10_keep_49 : decode cX10_keep 49 = .ok (.getfield 81, 3) := by decide +kernel
theorem dX10_keep_52 : decode cX10_keep 52 = .ok (.getfield 82, 3) := by decide +kernel
theorem dX10_keep_55 : decode cX10_keep 55 = .ok (.ireturn, 1) := by decide +kernel
theorem dX10_back_0 : decode cX10_back 0 = .ok (.iload_n 1, 1) := by decide +kernel
theorem dX10_back_1 : decode cX10_back 1 = .ok (.ifCond .lt 8, 3) := by decide +kernel
theorem dX10_back_4 : decode cX10_back 4 = .ok (.iload_n 1, 1) := by decide +kernel
theorem dX10_back_5 : decode cX10_back 5 = .ok (.iconst 2, 1) := by decide +kernel
theorem dX10_back_6 : decode cX10_back 6 = .ok (.if_icmp .lt 5, 3) := by decide +kernel
theorem dX10_back_9 : decode cX10_back 9 = .ok (.iconst (-1), 1) := by decide +kernel
theorem dX10_back_10 : decode cX10_back 10 = .ok (.ireturn, 1) := by decide +kernel
theorem dX10_back_11 : decode cX10_back 11 = .ok (.aload_n 0, 1) := by decide +kernel
theorem dX10_back_12 : decode cX10_back 12 = .ok (.getfield 37, 3) := by decide +kernel
theorem dX10_back_15 : decode cX10_back 15 = .ok (.iload_n 1, 1) := by decide +kernel
theorem dX10_back_16 : decode cX10_back 16 = .ok (.aaload, 1) := by decide +kernel
theorem dX10_back_17 : decode cX10_back 17 = .ok (.astore_n 2, 1) := by decide +kernel
theorem dX10_back_18 : decode cX10_back 18 = .ok (.aload_n 2, 1) := by decide +kernel
theorem dX10_back_19 : decode cX10_back 19 = .ok (.ifnonnull 6, 3) := by decide +kernel
theorem dX10_back_22 : decode cX10_back 22 = .ok (.bipush (-2), 2) := by decide +kernel
theorem dX10_back_24 : decode cX10_back 24 = .ok (.ireturn, 1) := by decide +kernel
theorem dX10_back_25 : decode cX10_back 25 = .ok (.aload_n 0, 1) := by decide +kernel
theorem dX10_back_26 : decode cX10_back 26 = .ok (.getfield 26, 3) := by decide +kernel
theorem dX10_back_29 : decode cX10_back 29 = .ok (.aload_n 2, 1) := by decide +kernel
theorem dX10_back_30 : decode cX10_back 30 = .ok (.invokevirtual 214, 3) := by decide +kernel
theorem dX10_back_33 : decode cX10_back 33 = .ok (.aload_n 0, 1) := by decide +kernel
theorem dX10_back_34 : decode cX10_back 34 = .ok (.getfield 33, 3) := by decide +kernel
theorem dX10_back_37 : decode cX10_back 37 = .ok (.invokevirtual 78, 3) := by decide +kernel
theorem dX10_back_40 : decode cX10_back 40 = .ok (.aload_n 0, 1) := by decide +kernel
theorem dX10_back_41 : decode cX10_back 41 = .ok (.getfield 26, 3) := by decide +kernel
theorem dX10_back_44 : decode cX10_back 44 = .ok (.getfield 81, 3) := by decide +kernel
theorem dX10_back_47 : decode cX10_back 47 = .ok (.getfield 82, 3) := by decide +kernel
theorem dX10_back_50 : decode cX10_back 50 = .ok (.ireturn, 1) := by decide +kernel
theorem dX10_told_0 : decode cX10_told 0 = .ok (.aload_n 0, 1) := by decide +kernel
theorem dX10_told_1 : decode cX10_told 1 = .ok (.getfield 26, 3) := by decide +kernel
theorem dX10_told_4 : decode cX10_told 4 = .ok (.invokevirtual 181, 3) := by decide +kernel
theorem dX10_told_7 : decode cX10_told 7 = .ok (.ifCond .eq 25, 3) := by decide +kernel
theorem dX10_told_10 : decode cX10_told 10 = .ok (.iload_n 1, 1) := by decide +kernel
theorem dX10_told_11 : decode cX10_told 11 = .ok (.invokestatic 198, 3) := by decide +kernel
theorem dX10_told_14 : decode cX10_told 14 = .ok (.ifCond .eq 18, 3) := by decide +kernel
theorem dX10_told_17 : decode cX10_told 17 = .ok (.aload_n 0, 1) := by decide +kernel
theorem dX10_told_18 : decode cX10_told 18 = .ok (.getfield 26, 3) := by decide +kernel
theorem dX10_told_21 : decode cX10_told 21 = .ok (.getfield 81, 3) := by decide +kernel
theorem dX10_told_24 : decode cX10_told 24 = .ok (.getfield 207, 3) := by decide +kernel
theorem dX10_told_27 : decode cX10_told 27 = .ok (.iload_n 1, 1) := by decide +kernel
theorem dX10_told_28 : decode cX10_told 28 = .ok (.iaload, 1) := by decide +kernel
theorem dX10_told_29 : decode cX10_told 29 = .ok (.goto 4, 3) := by decide +kernel
theorem dX10_told_32 : decode cX10_told 32 = .ok (.iconst (-1), 1) := by decide +kernel
theorem dX10_told_33 : decode cX10_told 33 = .ok (.ireturn, 1) := by decide +kernel
theorem dX10_origin_0 : decode cX10_origin 0 = .ok (.aload_n 0, 1) := by decide +kernel
theorem dX10_origin_1 : decode cX10_origin 1 = .ok (.getfield 26, 3) := by decide +kernel
theorem dX10_origin_4 : decode cX10_origin 4 = .ok (.iload_n 1, 1) := by decide +kernel
theorem dX10_origin_5 : decode cX10_origin 5 = .ok (.invokevirtual 191, 3) := by decide +kernel
theorem dX10_origin_8 : decode cX10_origin 8 = .ok (.ifCond .eq 13, 3) := by decide +kernel
theorem dX10_origin_11 : decode cX10_origin 11 = .ok (.iload_n 2, 1) := by decide +kernel
theorem dX10_origin_12 : decode cX10_origin 12 = .ok (.ifCond .lt 9, 3) := by decide +kernel
theorem dX10_origin_15 : decode cX10_origin 15 = .ok (.iload_n 2, 1) := by decide +kernel
theorem dX10_origin_16 : decode cX10_origin 16 = .ok (.bipush 8, 2) := by decide +kernel
theorem dX10_origin_18 : decode cX10_origin 18 = .ok (.if_icmp .lt 5, 3) := by decide +kernel
theorem dX10_origin_21 : decode cX10_origin 21 = .ok (.iconst (-1), 1) := by decide +kernel
theorem dX10_origin_22 : decode cX10_origin 22 = .ok (.ireturn, 1) := by decide +kernel
theorem dX10_origin_23 : decode cX10_origin 23 = .ok (.iload_n 2, 1) := by decide +kernel
theorem dX10_origin_24 : decode cX10_origin 24 = .ok (.ifCond .ne 18, 3) := by decide +kernel
theorem dX10_origin_27 : decode cX10_origin 27 = .ok (.aload_n 0, 1) := by decide +kernel
theorem dX10_origin_28 : decode cX10_origin 28 = .ok (.getfield 26, 3) := by decide +kernel
theorem dX10_origin_31 : decode cX10_origin 31 = .ok (.getfield 81, 3) := by decide +kernel
theorem dX10_origin_34 : decode cX10_origin 34 = .ok (.getfield 195, 3) := by decide +kernel
theorem dX10_origin_37 : decode cX10_origin 37 = .ok (.iload_n 1, 1) := by decide +kernel
theorem dX10_origin_38 : decode cX10_origin 38 = .ok (.iaload, 1) := by decide +kernel
theorem dX10_origin_39 : decode cX10_origin 39 = .ok (.goto 15, 3) := by decide +kernel
theorem dX10_origin_42 : decode cX10_origin 42 = .ok (.aload_n 0, 1) := by decide +kernel
theorem dX10_origin_43 : decode cX10_origin 43 = .ok (.getfield 26, 3) := by decide +kernel
theorem dX10_origin_46 : decode cX10_origin 46 = .ok (.getfield 156, 3) := by decide +kernel
theorem dX10_origin_49 : decode cX10_origin 49 = .ok (.iload_n 1, 1) := by decide +kernel
theorem dX10_origin_50 : decode cX10_origin 50 = .ok (.iload_n 2, 1) := by decide +kernel
theorem dX10_origin_51 : decode cX10_origin 51 = .ok (.invokevirtual 217, 3) := by decide +kernel
theorem dX10_origin_54 : decode cX10_origin 54 = .ok (.ireturn, 1) := by decide +kernel
theorem dX10_past_0 : decode cX10_past 0 = .ok (.aload_n 0, 1) := by decide +kernel
theorem dX10_past_1 : decode cX10_past 1 = .ok (.getfield 26, 3) := by decide +kernel
theorem dX10_past_4 : decode cX10_past 4 = .ok (.iload_n 1, 1) := by decide +kernel
theorem dX10_past_5 : decode cX10_past 5 = .ok (.iload_n 2, 1) := by decide +kernel
theorem dX10_past_6 : decode cX10_past 6 = .ok (.invokevirtual 87, 3) := by decide +kernel
theorem dX10_past_9 : decode cX10_past 9 = .ok (.ifCond .eq 12, 3) := by decide +kernel
theorem dX10_past_12 : decode cX10_past 12 = .ok (.iload_n 3, 1) := by decide +kernel
theorem dX10_past_13 : decode cX10_past 13 = .ok (.ifCond .lt 8, 3) := by decide +kernel
theorem dX10_past_16 : decode cX10_past 16 = .ok (.iload_n 3, 1) := by decide +kernel
theorem dX10_past_17 : decode cX10_past 17 = .ok (.iconst 3, 1) := by decide +kernel
theorem dX10_past_18 : decode cX10_past 18 = .ok (.if_icmp .le 5, 3) := by decide +kernel
theorem dX10_past_21 : decode cX10_past 21 = .ok (.iconst (-1), 1) := by decide +kernel
theorem dX10_past_22 : decode cX10_past 22 = .ok (.ireturn, 1) := by decide +kernel
theorem dX10_past_23 : decode cX10_past 23 = .ok (.iload_n 1, 1) := by decide +kernel
theorem dX10_past_24 : decode cX10_past 24 = .ok (.iload_n 2, 1) := by decide +kernel
theorem dX10_past_25 : decode cX10_past 25 = .ok (.invokestatic 160, 3) := by decide +kernel
theorem dX10_past_28 : decode cX10_past 28 = .ok (.istore 4, 2) := by decide +kernel
theorem dX10_past_30 : decode cX10_past 30 = .ok (.iload_n 3, 1) := by decide +kernel
theorem dX10_past_31 : decode cX10_past 31 = .ok (.iconst 3, 1) := by decide +kernel
theorem dX10_past_32 : decode cX10_past 32 = .ok (.if_icmp .ne 19, 3) := by decide +kernel
theorem dX10_past_35 : decode cX10_past 35 = .ok (.aload_n 0, 1) := by decide +kernel
theorem dX10_past_36 : decode cX10_past 36 = .ok (.getfield 26, 3) := by decide +kernel
theorem dX10_past_39 : decode cX10_past 39 = .ok (.getfield 220, 3) := by decide +kernel
theorem dX10_past_42 : decode cX10_past 42 = .ok (.getfield 224, 3) := by decide +kernel
theorem dX10_past_45 : decode cX10_past 45 = .ok (.iload 4, 2) := by decide +kernel
theorem dX10_past_47 : decode cX10_past 47 = .ok (.iaload, 1) := by decide +kernel
theorem dX10_past_48 : decode cX10_past 48 = .ok (.goto 16, 3) := by decide +kernel
theorem dX10_past_51 : decode cX10_past 51 = .ok (.aload_n 0, 1) := by decide +kernel
theorem dX10_past_52 : decode cX10_past 52 = .ok (.getfield 26, 3) := by decide +kernel
theorem dX10_past_55 : decode cX10_past 55 = .ok (.getfield 81, 3) := by decide +kernel
theorem dX10_past_58 : decode cX10_past 58 = .ok (.iload 4, 2) := by decide +kernel
theorem dX10_past_60 : decode cX10_past 60 = .ok (.iload_n 3, 1) := by decide +kernel
theorem dX10_past_61 : decode cX10_past 61 = .ok (.invokevirtual 229, 3) := by decide +kernel
theorem dX10_past_64 : decode cX10_past 64 = .ok (.ireturn, 1) := by decide +kernel
theorem dX10_sort_0 : decode cX10_sort 0 = .ok (.aload_n 0, 1) := by decide +kernel
theorem dX10_sort_1 : decode cX10_sort 1 = .ok (.getfield 26, 3) := by decide +kernel
theorem dX10_sort_4 : decode cX10_sort 4 = .ok (.iload_n 1, 1) := by decide +kernel
theorem dX10_sort_5 : decode cX10_sort 5 = .ok (.iload_n 2, 1) := by decide +kernel
theorem dX10_sort_6 : decode cX10_sort 6 = .ok (.invokevirtual 87, 3) := by decide +kernel
theorem dX10_sort_9 : decode cX10_sort 9 = .ok (.ifCond .ne 5, 3) := by decide +kernel
theorem dX10_sort_12 : decode cX10_sort 12 = .ok (.iconst (-1), 1) := by decide +kernel
theorem dX10_sort_13 : decode cX10_sort 13 = .ok (.ireturn, 1) := by decide +kernel
theorem dX10_sort_14 : decode cX10_sort 14 = .ok (.aload_n 0, 1) := by decide +kernel
theorem dX10_sort_15 : decode cX10_sort 15 = .ok (.getfield 26, 3) := by decide +kernel
theorem dX10_sort_18 : decode cX10_sort 18 = .ok (.getfield 156, 3) := by decide +kernel
theorem dX10_sort_21 : decode cX10_sort 21 = .ok (.getfield 232, 3) := by decide +kernel
theorem dX10_sort_24 : decode cX10_sort 24 = .ok (.iload_n 1, 1) := by decide +kernel
theorem dX10_sort_25 : decode cX10_sort 25 = .ok (.iload_n 2, 1) := by decide +kernel
theorem dX10_sort_26 : decode cX10_sort 26 = .ok (.invokestatic 160, 3) := by decide +kernel
theorem dX10_sort_29 : decode cX10_sort 29 = .ok (.iaload, 1) := by decide +kernel
theorem dX10_sort_30 : decode cX10_sort 30 = .ok (.ireturn, 1) := by decide +kernel
theorem dX10_mean_0 : decode cX10_mean 0 = .ok (.aload_n 0, 1) := by decide +kernel
theorem dX10_mean_1 : decode cX10_mean 1 = .ok (.getfield 26, 3) := by decide +kernel
theorem dX10_mean_4 : decode cX10_mean 4 = .ok (.iload_n 1, 1) := by decide +kernel
theorem dX10_mean_5 : decode cX10_mean 5 = .ok (.iload_n 2, 1) := by decide +kernel
theorem dX10_mean_6 : decode cX10_mean 6 = .ok (.invokevirtual 87, 3) := by decide +kernel
theorem dX10_mean_9 : decode cX10_mean 9 = .ok (.ifCond .ne 7, 3) := by decide +kernel
theorem dX10_mean_12 : decode cX10_mean 12 = .ok (.ldc2_w 171, 3) := by decide +kernel
theorem dX10_mean_15 : decode cX10_mean 15 = .ok (.lreturn, 1) := by decide +kernel
theorem dX10_mean_16 : decode cX10_mean 16 = .ok (.aload_n 0, 1) := by decide +kernel
theorem dX10_mean_17 : decode cX10_mean 17 = .ok (.getfield 26, 3) := by decide +kernel
theorem dX10_mean_20 : decode cX10_mean 20 = .ok (.getfield 81, 3) := by decide +kernel
theorem dX10_mean_23 : decode cX10_mean 23 = .ok (.iload_n 1, 1) := by decide +kernel
theorem dX10_mean_24 : decode cX10_mean 24 = .ok (.iload_n 2, 1) := by decide +kernel
theorem dX10_mean_25 : decode cX10_mean 25 = .ok (.invokestatic 160, 3) := by decide +kernel
theorem dX10_mean_28 : decode cX10_mean 28 = .ok (.invokevirtual 235, 3) := by decide +kernel
theorem dX10_mean_31 : decode cX10_mean 31 = .ok (.i2d, 1) := by decide +kernel
theorem dX10_mean_32 : decode cX10_mean 32 = .ok (.ldc2_w 238, 3) := by decide +kernel
theorem dX10_mean_35 : decode cX10_mean 35 = .ok (.ddiv, 1) := by decide +kernel
theorem dX10_mean_36 : decode cX10_mean 36 = .ok (.invokestatic 177, 3) := by decide +kernel
theorem dX10_mean_39 : decode cX10_mean 39 = .ok (.lreturn, 1) := by decide +kernel
theorem dX10_share_0 : decode cX10_share 0 = .ok (.aload_n 0, 1) := by decide +kernel
theorem dX10_share_1 : decode cX10_share 1 = .ok (.getfield 26, 3) := by decide +kernel
theorem dX10_share_4 : decode cX10_share 4 = .ok (.iload_n 1, 1) := by decide +kernel
theorem dX10_share_5 : decode cX10_share 5 = .ok (.iload_n 2, 1) := by decide +kernel
theorem dX10_share_6 : decode cX10_share 6 = .ok (.invokevirtual 87, 3) := by decide +kernel
theorem dX10_share_9 : decode cX10_share 9 = .ok (.ifCond .eq 12, 3) := by decide +kernel
theorem dX10_share_12 : decode cX10_share 12 = .ok (.iload_n 3, 1) := by decide +kernel
theorem dX10_share_13 : decode cX10_share 13 = .ok (.ifCond .lt 8, 3) := by decide +kernel
theorem dX10_share_16 : decode cX10_share 16 = .ok (.iload_n 3, 1) := by decide +kernel
theorem dX10_share_17 : decode cX10_share 17 = .ok (.iconst 1, 1) := by decide +kernel
theorem dX10_share_18 : decode cX10_share 18 = .ok (.if_icmp .le 5, 3) := by decide +kernel
theorem dX10_share_21 : decode cX10_share 21 = .ok (.iconst (-1), 1) := by decide +kernel
theorem dX10_share_22 : decode cX10_share 22 = .ok (.ireturn, 1) := by decide +kernel
theorem dX10_share_23 : decode cX10_share 23 = .ok (.iload_n 1, 1) := by decide +kernel
theorem dX10_share_24 : decode cX10_share 24 = .ok (.iload_n 2, 1) := by decide +kernel
theorem dX10_share_25 : decode cX10_share 25 = .ok (.invokestatic 160, 3) := by decide +kernel
theorem dX10_share_28 : decode cX10_share 28 = .ok (.istore 4, 2) := by decide +kernel
theorem dX10_share_30 : decode cX10_share 30 = .ok (.iload_n 3, 1) := by decide +kernel
theorem dX10_share_31 : decode cX10_share 31 = .ok (.ifCond .ne 19, 3) := by decide +kernel
theorem dX10_share_34 : decode cX10_share 34 = .ok (.aload_n 0, 1) := by decide +kernel
theorem dX10_share_35 : decode cX10_share 35 = .ok (.getfield 26, 3) := by decide +kernel
theorem dX10_share_38 : decode cX10_share 38 = .ok (.getfield 156, 3) := by decide +kernel
theorem dX10_share_41 : decode cX10_share 41 = .ok (.getfield 240, 3) := by decide +kernel
theorem dX10_share_44 : decode cX10_share 44 = .ok (.iload 4, 2) := by decide +kernel
theorem dX10_share_46 : decode cX10_share 46 = .ok (.iaload, 1) := by decide +kernel
theorem dX10_share_47 : decode cX10_share 47 = .ok (.goto 16, 3) := by decide +kernel
theorem dX10_share_50 : decode cX10_share 50 = .ok (.aload_n 0, 1) := by decide +kernel
theorem dX10_share_51 : decode cX10_share 51 = .ok (.getfield 26, 3) := by decide +kernel
theorem dX10_share_54 : decode cX10_share 54 = .ok (.getfield 156, 3) := by decide +kernel
theorem dX10_share_57 : decode cX10_share 57 = .ok (.getfield 168, 3) := by decide +kernel
theorem dX10_share_60 : decode cX10_share 60 = .ok (.iload 4, 2) := by decide +kernel
theorem dX10_share_62 : decode cX10_share 62 = .ok (.iaload, 1) := by decide +kernel
theorem dX10_share_63 : decode cX10_share 63 = .ok (.ireturn, 1) := by decide +kernel
theorem dX10_licence_0 : decode cX10_licence 0 = .ok (.aload_n 0, 1) := by decide +kernel
theorem dX10_licence_1 : decode cX10_licence 1 = .ok (.getfield 26, 3) := by decide +kernel
theorem dX10_licence_4 : decode cX10_licence 4 = .ok (.getfield 106, 3) := by decide +kernel
theorem dX10_licence_7 : decode cX10_licence 7 = .ok (.iload_n 1, 1) := by decide +kernel
theorem dX10_licence_8 : decode cX10_licence 8 = .ok (.invokevirtual 110, 3) := by decide +kernel
theorem dX10_licence_11 : decode cX10_licence 11 = .ok (.ifCond .ne 5, 3) := by decide +kernel
theorem dX10_licence_14 : decode cX10_licence 14 = .ok (.iconst (-1), 1) := by decide +kernel
theorem dX10_licence_15 : decode cX10_licence 15 = .ok (.ireturn, 1) := by decide +kernel
theorem dX10_licence_16 : decode cX10_licence 16 = .ok (.aload_n 0, 1) := by decide +kernel
theorem dX10_licence_17 : decode cX10_licence 17 = .ok (.getfield 26, 3) := by decide +kernel
theorem dX10_licence_20 : decode cX10_licence 20 = .ok (.getfield 106, 3) := by decide +kernel
theorem dX10_licence_23 : decode cX10_licence 23 = .ok (.astore_n 3, 1) := by decide +kernel
theorem dX10_licence_24 : decode cX10_licence 24 = .ok (.iload_n 2, 1) := by decide +kernel
theorem dX10_licence_25 : decode cX10_licence 25 = .ok (.tableswitch 102 0 7 #[47, 54, 61, 68, 75, 82, 89, 96], 47) := by decide +kernel
theorem dX10_licence_72 : decode cX10_licence 72 = .ok (.aload_n 3, 1) := by decide +kernel
theorem dX10_licence_73 : decode cX10_licence 73 = .ok (.getfield 136, 3) := by decide +kernel
theorem dX10_licence_76 : decode cX10_licence 76 = .ok (.iload_n 1, 1) := by decide +kernel
theorem dX10_licence_77 : decode cX10_licence 77 = .ok (.iaload, 1) := by decide +kernel
theorem dX10_licence_78 : decode cX10_licence 78 = .ok (.ireturn, 1) := by decide +kernel
theorem dX10_licence_79 : decode cX10_licence 79 = .ok (.aload_n 3, 1) := by decide +kernel
theorem dX10_licence_80 : decode cX10_licence 80 = .ok (.getfield 243, 3) := by decide +kernel
theorem dX10_licence_83 : decode cX10_licence 83 = .ok (.iload_n 1, 1) := by decide +kernel
theorem dX10_licence_84 : decode cX10_licence 84 = .ok (.iaload, 1) := by decide +kernel
theorem dX10_licence_85 : decode cX10_licence 85 = .ok (.ireturn, 1) := by decide +kernel
theorem dX10_licence_86 : decode cX10_licence 86 = .ok (.aload_n 3, 1) := by decide +kernel
theorem dX10_licence_87 : decode cX10_licence 87 = .ok (.getfield 246, 3) := by decide +kernel
theorem dX10_licence_90 : decode cX10_licence 90 = .ok (.iload_n 1, 1) := by decide +kernel
theorem dX10_licence_91 : decode cX10_licence 91 = .ok (.iaload, 1) := by decide +kernel
theorem dX10_licence_92 : decode cX10_licence 92 = .ok (.ireturn, 1) := by decide +kernel
theorem dX10_licence_93 : decode cX10_licence 93 = .ok (.aload_n 3, 1) := by decide +kernel
theorem dX10_licence_94 : decode cX10_licence 94 = .ok (.getfield 249, 3) := by decide +kernel
theorem dX10_licence_97 : decode cX10_licence 97 = .ok (.iload_n 1, 1) := by decide +kernel
theorem dX10_licence_98 : decode cX10_licence 98 = .ok (.iaload, 1) := by decide +kernel
theorem dX10_licence_99 : decode cX10_licence 99 = .ok (.ireturn, 1) := by decide +kernel
theorem dX10_licence_100 : decode cX10_licence 100 = .ok (.aload_n 3, 1) := by decide +kernel
theorem dX10_licence_101 : decode cX10_licence 101 = .ok (.getfield 252, 3) := by decide +kernel
theorem dX10_licence_104 : decode cX10_licence 104 = .ok (.iload_n 1, 1) := by decide +kernel
theorem dX10_licence_105 : decode cX10_licence 105 = .ok (.iaload, 1) := by decide +kernel
theorem dX10_licence_106 : decode cX10_licence 106 = .ok (.ireturn, 1) := by decide +kernel
theorem dX10_licence_107 : decode cX10_licence 107 = .ok (.aload_n 3, 1) := by decide +kernel
theorem dX10_licence_108 : decode cX10_licence 108 = .ok (.getfield 255, 3) := by decide +kernel
theorem dX10_licence_111 : decode cX10_licence 111 = .ok (.iload_n 1, 1) := by decide +kernel
theorem dX10_licence_112 : decode cX10_licence 112 = .ok (.iaload, 1) := by decide +kernel
theorem dX10_licence_113 : decode cX10_licence 113 = .ok (.ireturn, 1) := by decide +kernel
theorem dX10_licence_114 : decode cX10_licence 114 = .ok (.aload_n 3, 1) := by decide +kernel
theorem dX10_licence_115 : decode cX10_licence 115 = .ok (.getfield 258, 3) := by decide +kernel
theorem dX10_licence_118 : decode cX10_licence 118 = .ok (.iload_n 1, 1) := by decide +kernel
theorem dX10_licence_119 : decode cX10_licence 119 = .ok (.iaload, 1) := by decide +kernel
theorem dX10_licence_120 : decode cX10_licence 120 = .ok (.ireturn, 1) := by decide +kernel
theorem dX10_licence_121 : decode cX10_licence 121 = .ok (.aload_n 3, 1) := by decide +kernel
theorem dX10_licence_122 : decode cX10_licence 122 = .ok (.iload_n 1, 1) := by decide +kernel
theorem dX10_licence_123 : decode cX10_licence 123 = .ok (.invokevirtual 118, 3) := by decide +kernel
theorem dX10_licence_126 : decode cX10_licence 126 = .ok (.ireturn, 1) := by decide +kernel
theorem dX10_licence_127 : decode cX10_licence 127 = .ok (.iconst (-1), 1) := by decide +kernel
theorem dX10_licence_128 : decode cX10_licence 128 = .ok (.ireturn, 1) := by decide +kernel
theorem dX10_month_0 : decode cX10_month 0 = .ok (.aload_n 0, 1) := by decide +kernel
theorem dX10_month_1 : decode cX10_month 1 = .ok (.getfield 26, 3) := by decide +kernel
theorem dX10_month_4 : decode cX10_month 4 = .ok (.iload_n 1, 1) := by decide +kernel
theorem dX10_month_5 : decode cX10_month 5 = .ok (.invokevirtual 133, 3) := by decide +kernel
theorem dX10_month_8 : decode cX10_month 8 = .ok (.ifCond .eq 13, 3) := by decide +kernel
theorem dX10_month_11 : decode cX10_month 11 = .ok (.iload_n 2, 1) := by decide +kernel
theorem dX10_month_12 : decode cX10_month 12 = .ok (.ifCond .lt 9, 3) := by decide +kernel
theorem dX10_month_15 : decode cX10_month 15 = .ok (.iload_n 2, 1) := by decide +kernel
theorem dX10_month_16 : decode cX10_month 16 = .ok (.bipush 12, 2) := by decide +kernel
theorem dX10_month_18 : decode cX10_month 18 = .ok (.if_icmp .lt 5, 3) := by decide +kernel
theorem dX10_month_21 : decode cX10_month 21 = .ok (.iconst (-1), 1) := by decide +kernel
theorem dX10_month_22 : decode cX10_month 22 = .ok (.ireturn, 1) := by decide +kernel
theorem dX10_month_23 : decode cX10_month 23 = .ok (.aload_n 0, 1) := by decide +kernel
theorem dX10_month_24 : decode cX10_month 24 = .ok (.getfield 26, 3) := by decide +kernel
theorem dX10_month_27 : decode cX10_month 27 = .ok (.getfield 220, 3) := by decide +kernel
theorem dX10_month_30 : decode cX10_month 30 = .ok (.getfield 261, 3) := by decide +kernel
theorem dX10_month_33 : decode cX10_month 33 = .ok (.iload_n 1, 1) := by decide +kernel
theorem dX10_month_34 : decode cX10_month 34 = .ok (.bipush 12, 2) := by decide +kernel
theorem dX10_month_36 : decode cX10_month 36 = .ok (.imul, 1) := by decide +kernel
theorem dX10_month_37 : decode cX10_month 37 = .ok (.iload_n 2, 1) := by decide +kernel
theorem dX10_month_38 : decode cX10_month 38 = .ok (.iadd, 1) := by decide +kernel
theorem dX10_month_39 : decode cX10_month 39 = .ok (.iaload, 1) := by decide +kernel
theorem dX10_month_40 : decode cX10_month 40 = .ok (.ireturn, 1) := by decide +kernel
theorem dX10_rate_0 : decode cX10_rate 0 = .ok (.aload_n 0, 1) := by decide +kernel
theorem dX10_rate_1 : decode cX10_rate 1 = .ok (.getfield 26, 3) := by decide +kernel
theorem dX10_rate_4 : decode cX10_rate 4 = .ok (.iload_n 1, 1) := by decide +kernel
theorem dX10_rate_5 : decode cX10_rate 5 = .ok (.invokevirtual 133, 3) := by decide +kernel
theorem dX10_rate_8 : decode cX10_rate 8 = .ok (.ifCond .eq 20, 3) := by decide +kernel
theorem dX10_rate_11 : decode cX10_rate 11 = .ok (.aload_n 0, 1) := by decide +kernel
theorem dX10_rate_12 : decode cX10_rate 12 = .ok (.getfield 26, 3) := by decide +kernel
theorem dX10_rate_15 : decode cX10_rate 15 = .ok (.getfield 106, 3) := by decide +kernel
theorem dX10_rate_18 : decode cX10_rate 18 = .ok (.iload_n 1, 1) := by decide +kernel
theorem dX10_rate_19 : decode cX10_rate 19 = .ok (.invokevirtual 264, 3) := by decide +kernel
theorem dX10_rate_22 : decode cX10_rate 22 = .ok (.invokestatic 177, 3) := by decide +kernel
theorem dX10_rate_25 : decode cX10_rate 25 = .ok (.goto 6, 3) := by decide +kernel
theorem dX10_rate_28 : decode cX10_rate 28 = .ok (.ldc2_w 171, 3) := by decide +kernel
theorem dX10_rate_31 : decode cX10_rate 31 = .ok (.lreturn, 1) := by decide +kernel
theorem dX10_idle_0 : decode cX10_idle 0 = .ok (.aload_n 0, 1) := by decide +kernel
theorem dX10_idle_1 : decode cX10_idle 1 = .ok (.getfield 26, 3) := by decide +kernel
theorem dX10_idle_4 : decode cX10_idle 4 = .ok (.iload_n 1, 1) := by decide +kernel
theorem dX10_idle_5 : decode cX10_idle 5 = .ok (.iload_n 2, 1) := by decide +kernel
theorem dX10_idle_6 : decode cX10_idle 6 = .ok (.invokevirtual 87, 3) := by decide +kernel
theorem dX10_idle_9 : decode cX10_idle 9 = .ok (.ifCond .ne 5, 3) := by decide +kernel
theorem dX10_idle_12 : decode cX10_idle 12 = .ok (.iconst (-1), 1) := by decide +kernel
theorem dX10_idle_13 : decode cX10_idle 13 = .ok (.ireturn, 1) := by decide +kernel
theorem dX10_idle_14 : decode cX10_idle 14 = .ok (.aload_n 0, 1) := by decide +kernel
theorem dX10_idle_15 : decode cX10_idle 15 = .ok (.getfield 26, 3) := by decide +kernel
theorem dX10_idle_18 : decode cX10_idle 18 = .ok (.iload_n 1, 1) := by decide +kernel
theorem dX10_idle_19 : decode cX10_idle 19 = .ok (.iload_n 2, 1) := by decide +kernel
theorem dX10_idle_20 : decode cX10_idle 20 = .ok (.invokevirtual 268, 3) := by decide +kernel
theorem dX10_idle_23 : decode cX10_idle 23 = .ok (.ifCond .eq 7, 3) := by decide +kernel
theorem dX10_idle_26 : decode cX10_idle 26 = .ok (.iconst 1, 1) := by decide +kernel
theorem dX10_idle_27 : decode cX10_idle 27 = .ok (.goto 4, 3) := by decide +kernel
theorem dX10_idle_30 : decode cX10_idle 30 = .ok (.iconst 0, 1) := by decide +kernel
theorem dX10_idle_31 : decode cX10_idle 31 = .ok (.ireturn, 1) := by decide +kernel
theorem dX10_owed_0 : decode cX10_owed 0 = .ok (.aload_n 0, 1) := by decide +kernel
theorem dX10_owed_1 : decode cX10_owed 1 = .ok (.getfield 26, 3) := by decide +kernel
theorem dX10_owed_4 : decode cX10_owed 4 = .ok (.iload_n 1, 1) := by decide +kernel
theorem dX10_owed_5 : decode cX10_owed 5 = .ok (.invokevirtual 133, 3) := by decide +kernel
theorem dX10_owed_8 : decode cX10_owed 8 = .ok (.ifCond .eq 18, 3) := by decide +kernel
theorem dX10_owed_11 : decode cX10_owed 11 = .ok (.aload_n 0, 1) := by decide +kernel
theorem dX10_owed_12 : decode cX10_owed 12 = .ok (.getfield 26, 3) := by decide +kernel
theorem dX10_owed_15 : decode cX10_owed 15 = .ok (.getfield 271, 3) := by decide +kernel
theorem dX10_owed_18 : decode cX10_owed 18 = .ok (.iload_n 1, 1) := by decide +kernel
theorem dX10_owed_19 : decode cX10_owed 19 = .ok (.daload, 1) := by decide +kernel
theorem dX10_owed_20 : decode cX10_owed 20 = .ok (.invokestatic 177, 3) := by decide +kernel
theorem dX10_owed_23 : decode cX10_owed 23 = .ok (.goto 6, 3) := by decide +kernel
theorem dX10_owed_26 : decode cX10_owed 26 = .ok (.ldc2_w 171, 3) := by decide +kernel
theorem dX10_owed_29 : decode cX10_owed 29 = .ok (.lreturn, 1) := by decide +kernel
theorem dX10_would_0 : decode cX10_would 0 = .ok (.aload_n 0, 1) := by decide +kernel
theorem dX10_would_1 : decode cX10_would 1 = .ok (.getfield 26, 3) := by decide +kernel
theorem dX10_would_4 : decode cX10_would 4 = .ok (.iload_n 1, 1) := by decide +kernel
theorem dX10_would_5 : decode cX10_would 5 = .ok (.iload_n 2, 1) := by decide +kernel
theorem dX10_would_6 : decode cX10_would 6 = .ok (.invokevirtual 87, 3) := by decide +kernel
theorem dX10_would_9 : decode cX10_would 9 = .ok (.ifCond .eq 10, 3) := by decide +kernel
theorem dX10_would_12 : decode cX10_would 12 = .ok (.iload_n 3, 1) := by decide +kernel
theorem dX10_would_13 : decode cX10_would 13 = .ok (.invokestatic 91, 3) := by decide +kernel
theorem dX10_would_16 : decode cX10_would 16 = .ok (.ifCond .ne 5, 3) := by decide +kernel
theorem dX10_would_19 : decode cX10_would 19 = .ok (.iconst (-1), 1) := by decide +kernel
theorem dX10_would_20 : decode cX10_would 20 = .ok (.ireturn, 1) := by decide +kernel
theorem dX10_would_21 : decode cX10_would 21 = .ok (.aload_n 0, 1) := by decide +kernel
theorem dX10_would_22 : decode cX10_would 22 = .ok (.getfield 26, 3) := by decide +kernel
theorem dX10_would_25 : decode cX10_would 25 = .ok (.iload_n 1, 1) := by decide +kernel
theorem dX10_would_26 : decode cX10_would 26 = .ok (.iload_n 2, 1) := by decide +kernel
theorem dX10_would_27 : decode cX10_would 27 = .ok (.iload_n 3, 1) := by decide +kernel
theorem dX10_would_28 : decode cX10_would 28 = .ok (.invokevirtual 95, 3) := by decide +kernel
theorem dX10_would_31 : decode cX10_would 31 = .ok (.ireturn, 1) := by decide +kernel
theorem dX10_lapses_0 : decode cX10_lapses 0 = .ok (.aload_n 0, 1) := by decide +kernel
theorem dX10_lapses_1 : decode cX10_lapses 1 = .ok (.getfield 26, 3) := by decide +kernel
theorem dX10_lapses_4 : decode cX10_lapses 4 = .ok (.invokevirtual 181, 3) := by decide +kernel
theorem dX10_lapses_7 : decode cX10_lapses 7 = .ok (.ifCond .eq 10, 3) := by decide +kernel
theorem dX10_lapses_10 : decode cX10_lapses 10 = .ok (.iload_n 1, 1) := by decide +kernel
theorem dX10_lapses_11 : decode cX10_lapses 11 = .ok (.invokestatic 185, 3) := by decide +kernel
theorem dX10_lapses_14 : decode cX10_lapses 14 = .ok (.ifCond .ne 5, 3) := by decide +kernel
theorem dX10_lapses_17 : decode cX10_lapses 17 = .ok (.iconst (-1), 1) := by decide +kernel
theorem dX10_lapses_18 : decode cX10_lapses 18 = .ok (.ireturn, 1) := by decide +kernel
theorem dX10_lapses_19 : decode cX10_lapses 19 = .ok (.aload_n 0, 1) := by decide +kernel
theorem dX10_lapses_20 : decode cX10_lapses 20 = .ok (.getfield 26, 3) := by decide +kernel
theorem dX10_lapses_23 : decode cX10_lapses 23 = .ok (.getfield 106, 3) := by decide +kernel
theorem dX10_lapses_26 : decode cX10_lapses 26 = .ok (.astore_n 2, 1) := by decide +kernel
theorem dX10_lapses_27 : decode cX10_lapses 27 = .ok (.iconst 0, 1) := by decide +kernel
theorem dX10_lapses_28 : decode cX10_lapses 28 = .ok (.istore_n 3, 1) := by decide +kernel
theorem dX10_lapses_29 : decode cX10_lapses 29 = .ok (.iconst 0, 1) := by decide +kernel
theorem dX10_lapses_30 : decode cX10_lapses 30 = .ok (.istore 4, 2) := by decide +kernel
theorem dX10_lapses_32 : decode cX10_lapses 32 = .ok (.iload 4, 2) := by decide +kernel
theorem dX10_lapses_34 : decode cX10_lapses 34 = .ok (.aload_n 2, 1) := by decide +kernel
theorem dX10_lapses_35 : decode cX10_lapses 35 = .ok (.getfield 139, 3) := by decide +kernel
theorem dX10_lapses_38 : decode cX10_lapses 38 = .ok (.if_icmp .ge 37, 3) := by decide +kernel
theorem dX10_lapses_41 : decode cX10_lapses 41 = .ok (.aload_n 2, 1) := by decide +kernel
theorem dX10_lapses_42 : decode cX10_lapses 42 = .ok (.getfield 258, 3) := by decide +kernel
theorem dX10_lapses_45 : decode cX10_lapses 45 = .ok (.iload 4, 2) := by decide +kernel
theorem dX10_lapses_47 : decode cX10_lapses 47 = .ok (.iaload, 1) := by decide +kernel
theorem dX10_lapses_48 : decode cX10_lapses 48 = .ok (.aload_n 0, 1) := by decide +kernel
theorem dX10_lapses_49 : decode cX10_lapses 49 = .ok (.getfield 26, 3) := by decide +kernel
theorem dX10_lapses_52 : decode cX10_lapses 52 = .ok (.getfield 142, 3) := by decide +kernel
theorem dX10_lapses_55 : decode cX10_lapses 55 = .ok (.iload_n 1, 1) := by decide +kernel
theorem dX10_lapses_56 : decode cX10_lapses 56 = .ok (.iadd, 1) := by decide +kernel
theorem dX10_lapses_57 : decode cX10_lapses 57 = .ok (.if_icmp .ge 12, 3) := by decide +kernel
theorem dX10_lapses_60 : decode cX10_lapses 60 = .ok (.iload_n 3, 1) := by decide +kernel
theorem dX10_lapses_61 : decode cX10_lapses 61 = .ok (.aload_n 2, 1) := by decide +kernel
theorem dX10_lapses_62 : decode cX10_lapses 62 = .ok (.iload 4, 2) := by decide +kernel
theorem dX10_lapses_64 : decode cX10_lapses 64 = .ok (.invokevirtual 118, 3) := by decide +kernel
theorem dX10_lapses_67 : decode cX10_lapses 67 = .ok (.iadd, 1) := by decide +kernel
theorem dX10_lapses_68 : decode cX10_lapses 68 = .ok (.istore_n 3, 1) := by decide +kernel
theorem dX10_lapses_69 : decode cX10_lapses 69 = .ok (.iinc 4 1, 3) := by decide +kernel
theorem dX10_lapses_72 : decode cX10_lapses 72 = .ok (.goto (-40), 3) := by decide +kernel
theorem dX10_lapses_75 : decode cX10_lapses 75 = .ok (.iload_n 3, 1) := by decide +kernel
theorem dX10_lapses_76 : decode cX10_lapses 76 = .ok (.ireturn, 1) := by decide +kernel
theorem dX10_next_0 : decode cX10_next 0 = .ok (.iload_n 1, 1) := by decide +kernel
theorem dX10_next_1 : decode cX10_next 1 = .ok (.iconst (-1), 1) := by decide +kernel
theorem dX10_next_2 : decode cX10_next 2 = .ok (.if_icmp .ge 5, 3) := by decide +kernel
theorem dX10_next_5 : decode cX10_next 5 = .ok (.iconst (-1), 1) := by decide +kernel
theorem dX10_next_6 : decode cX10_next 6 = .ok (.ireturn, 1) := by decide +kernel
theorem dX10_next_7 : decode cX10_next 7 = .ok (.aload_n 0, 1) := by decide +kernel
theorem dX10_next_8 : decode cX10_next 8 = .ok (.getfield 26, 3) := by decide +kernel
theorem dX10_next_11 : decode cX10_next 11 = .ok (.getfield 106, 3) := by decide +kernel
theorem dX10_next_14 : decode cX10_next 14 = .ok (.astore_n 2, 1) := by decide +kernel
theorem dX10_next_15 : decode cX10_next 15 = .ok (.iload_n 1, 1) := by decide +kernel
theorem dX10_next_16 : decode cX10_next 16 = .ok (.iconst (-1), 1) := by decide +kernel
theorem dX10_next_17 : decode cX10_next 17 = .ok (.if_icmp .ne 8, 3) := by decide +kernel
theorem dX10_next_20 : decode cX10_next 20 = .ok (.aload_n 2, 1) := by decide +kernel
theorem dX10_next_21 : decode cX10_next 21 = .ok (.invokevirtual 275, 3) := by decide +kernel
theorem dX10_next_24 : decode cX10_next 24 = .ok (.ireturn, 1) := by decide +kernel
theorem dX10_next_25 : decode cX10_next 25 = .ok (.iconst 0, 1) := by decide +kernel
theorem dX10_next_26 : decode cX10_next 26 = .ok (.istore_n 3, 1) := by decide +kernel
theorem dX10_next_27 : decode cX10_next 27 = .ok (.iload_n 3, 1) := by decide +kernel
theorem dX10_next_28 : decode cX10_next 28 = .ok (.aload_n 2, 1) := by decide +kernel
theorem dX10_next_29 : decode cX10_next 29 = .ok (.getfield 139, 3) := by decide +kernel
theorem dX10_next_32 : decode cX10_next 32 = .ok (.if_icmp .ge 28, 3) := by decide +kernel
theorem dX10_next_35 : decode cX10_next 35 = .ok (.aload_n 2, 1) := by decide +kernel
theorem dX10_next_36 : decode cX10_next 36 = .ok (.iload_n 3, 1) := by decide +kernel
theorem dX10_next_37 : decode cX10_next 37 = .ok (.invokevirtual 115, 3) := by decide +kernel
theorem dX10_next_40 : decode cX10_next 40 = .ok (.ifCond .eq 14, 3) := by decide +kernel
theorem dX10_next_43 : decode cX10_next 43 = .ok (.aload_n 2, 1) := by decide +kernel
theorem dX10_next_44 : decode cX10_next 44 = .ok (.iload_n 3, 1) := by decide +kernel
theorem dX10_next_45 : decode cX10_next 45 = .ok (.invokevirtual 278, 3) := by decide +kernel
theorem dX10_next_48 : decode cX10_next 48 = .ok (.iload_n 1, 1) := by decide +kernel
theorem dX10_next_49 : decode cX10_next 49 = .ok (.if_icmp .ne 5, 3) := by decide +kernel
theorem dX10_next_52 : decode cX10_next 52 = .ok (.iload_n 3, 1) := by decide +kernel
theorem dX10_next_53 : decode cX10_next 53 = .ok (.ireturn, 1) := by decide +kernel
theorem dX10_next_54 : decode cX10_next 54 = .ok (.iinc 3 1, 3) := by decide +kernel
theorem dX10_next_57 : decode cX10_next 57 = .ok (.goto (-30), 3) := by decide +kernel
theorem dX10_next_60 : decode cX10_next 60 = .ok (.bipush (-2), 2) := by decide +kernel
theorem dX10_next_62 : decode cX10_next 62 = .ok (.ireturn, 1) := by decide +kernel
theorem dX10_best_0 : decode cX10_best 0 = .ok (.aload_n 0, 1) := by decide +kernel
theorem dX10_best_1 : decode cX10_best 1 = .ok (.getfield 26, 3) := by decide +kernel
theorem dX10_best_4 : decode cX10_best 4 = .ok (.iload_n 1, 1) := by decide +kernel
theorem dX10_best_5 : decode cX10_best 5 = .ok (.invokevirtual 133, 3) := by decide +kernel
theorem dX10_best_8 : decode cX10_best 8 = .ok (.ifCond .eq 19, 3) := by decide +kernel
theorem dX10_best_11 : decode cX10_best 11 = .ok (.iload_n 2, 1) := by decide +kernel
theorem dX10_best_12 : decode cX10_best 12 = .ok (.invokestatic 91, 3) := by decide +kernel
theorem dX10_best_15 : decode cX10_best 15 = .ok (.ifCond .eq 12, 3) := by decide +kernel
theorem dX10_best_18 : decode cX10_best 18 = .ok (.iload_n 3, 1) := by decide +kernel
theorem dX10_best_19 : decode cX10_best 19 = .ok (.ifCond .lt 8, 3) := by decide +kernel
theorem dX10_best_22 : decode cX10_best 22 = .ok (.iload_n 3, 1) := by decide +kernel
theorem dX10_best_23 : decode cX10_best 23 = .ok (.iconst 1, 1) := by decide +kernel
theorem dX10_best_24 : decode cX10_best 24 = .ok (.if_icmp .le 5, 3) := by decide +kernel
theorem dX10_best_27 : decode cX10_best 27 = .ok (.iconst (-1), 1) := by decide +kernel
theorem dX10_best_28 : decode cX10_best 28 = .ok (.ireturn, 1) := by decide +kernel
theorem dX10_best_29 : decode cX10_best 29 = .ok (.bipush (-2), 2) := by decide +kernel
theorem dX10_best_31 : decode cX10_best 31 = .ok (.istore 4, 2) := by decide +kernel
theorem dX10_best_33 : decode cX10_best 33 = .ok (.iconst 0, 1) := by decide +kernel
theorem dX10_best_34 : decode cX10_best 34 = .ok (.istore 5, 2) := by decide +kernel
theorem dX10_best_36 : decode cX10_best 36 = .ok (.iconst 0, 1) := by decide +kernel
theorem dX10_best_37 : decode cX10_best 37 = .ok (.istore 6, 2) := by decide +kernel
theorem dX10_best_39 : decode cX10_best 39 = .ok (.iload 6, 2) := by decide +kernel
theorem dX10_best_41 : decode cX10_best 41 = .ok (.aload_n 0, 1) := by decide +kernel
theorem dX10_best_42 : decode cX10_best 42 = .ok (.getfield 26, 3) := by decide +kernel
theorem dX10_best_45 : decode cX10_best 45 = .ok (.getfield 81, 3) := by decide +kernel
theorem dX10_best_48 : decode cX10_best 48 = .ok (.getfield 82, 3) := by decide +kernel
theorem dX10_best_51 : decode cX10_best 51 = .ok (.if_icmp .ge 37, 3) := by decide +kernel
theorem dX10_best_54 : decode cX10_best 54 = .ok (.aload_n 0, 1) := by decide +kernel
theorem dX10_best_55 : decode cX10_best 55 = .ok (.getfield 26, 3) := by decide +kernel
theorem dX10_best_58 : decode cX10_best 58 = .ok (.iload_n 1, 1) := by decide +kernel
theorem dX10_best_59 : decode cX10_best 59 = .ok (.iload 6, 2) := by decide +kernel
theorem dX10_best_61 : decode cX10_best 61 = .ok (.iload_n 2, 1) := by decide +kernel
theorem dX10_best_62 : decode cX10_best 62 = .ok (.invokevirtual 95, 3) := by decide +kernel
theorem dX10_best_65 : decode cX10_best 65 = .ok (.istore 7, 2) := by decide +kernel
theorem dX10_best_67 : decode cX10_best 67 = .ok (.iload 7, 2) := by decide +kernel
theorem dX10_best_69 : decode cX10_best 69 = .ok (.iload 5, 2) := by decide +kernel
theorem dX10_best_71 : decode cX10_best 71 = .ok (.if_icmp .le 11, 3) := by decide +kernel
theorem dX10_best_74 : decode cX10_best 74 = .ok (.iload 7, 2) := by decide +kernel
theorem dX10_best_76 : decode cX10_best 76 = .ok (.istore 5, 2) := by decide +kernel
theorem dX10_best_78 : decode cX10_best 78 = .ok (.iload 6, 2) := by decide +kernel
theorem dX10_best_80 : decode cX10_best 80 = .ok (.istore 4, 2) := by decide +kernel
theorem dX10_best_82 : decode cX10_best 82 = .ok (.iinc 6 1, 3) := by decide +kernel
theorem dX10_best_85 : decode cX10_best 85 = .ok (.goto (-46), 3) := by decide +kernel
theorem dX10_best_88 : decode cX10_best 88 = .ok (.iload 4, 2) := by decide +kernel
theorem dX10_best_90 : decode cX10_best 90 = .ok (.ifCond .lt 7, 3) := by decide +kernel
theorem dX10_best_93 : decode cX10_best 93 = .ok (.iload_n 3, 1) := by decide +kernel
theorem dX10_best_94 : decode cX10_best 94 = .ok (.ifCond .ne 8, 3) := by decide +kernel
theorem dX10_best_97 : decode cX10_best 97 = .ok (.iload 4, 2) := by decide +kernel
theorem dX10_best_99 : decode cX10_best 99 = .ok (.goto 5, 3) := by decide +kernel
theorem dX10_best_102 : decode cX10_best 102 = .ok (.iload 5, 2) := by decide +kernel
theorem dX10_best_104 : decode cX10_best 104 = .ok (.ireturn, 1) := by decide +kernel
theorem dX10_order_0 : decode cX10_order 0 = .ok (.iconst 0, 1) := by decide +kernel
theorem dX10_order_1 : decode cX10_order 1 = .ok (.istore_n 2, 1) := by decide +kernel
theorem dX10_order_2 : decode cX10_order 2 = .ok (.iload_n 2, 1) := by decide +kernel
theorem dX10_order_3 : decode cX10_order 3 = .ok (.aload_n 0, 1) := by decide +kernel
theorem dX10_order_4 : decode cX10_order 4 = .ok (.getfield 26, 3) := by decide +kernel
theorem dX10_order_7 : decode cX10_order 7 = .ok (.getfield 81, 3) := by decide +kernel
theorem dX10_order_10 : decode cX10_order 10 = .ok (.getfield 281, 3) := by decide +kernel
theorem dX10_order_13 : decode cX10_order 13 = .ok (.if_icmp .ge 23, 3) := by decide +kernel
theorem dX10_order_16 : decode cX10_order 16 = .ok (.aload_n 0, 1) := by decide +kernel
theorem dX10_order_17 : decode cX10_order 17 = .ok (.getfield 26, 3) := by decide +kernel
theorem dX10_order_20 : decode cX10_order 20 = .ok (.iload_n 2, 1) := by decide +kernel
theorem dX10_order_21 : decode cX10_order 21 = .ok (.invokevirtual 284, 3) := by decide +kernel
theorem dX10_order_24 : decode cX10_order 24 = .ok (.iload_n 1, 1) := by decide +kernel
theorem dX10_order_25 : decode cX10_order 25 = .ok (.if_icmp .ne 5, 3) := by decide +kernel
theorem dX10_order_28 : decode cX10_order 28 = .ok (.iload_n 2, 1) := by decide +kernel
theorem dX10_order_29 : decode cX10_order 29 = .ok (.ireturn, 1) := by decide +kernel
theorem dX10_order_30 : decode cX10_order 30 = .ok (.iinc 2 1, 3) := by decide +kernel
theorem dX10_order_33 : decode cX10_order 33 = .ok (.goto (-31), 3) := by decide +kernel
theorem dX10_order_36 : decode cX10_order 36 = .ok (.iconst (-1), 1) := by decide +kernel
theorem dX10_order_37 : decode cX10_order 37 = .ok (.ireturn, 1) := by decide +kernel
theorem dX10_focus_0 : decode cX10_focus 0 = .ok (.aload_n 0, 1) := by decide +kernel
theorem dX10_focus_1 : decode cX10_focus 1 = .ok (.getfield 26, 3) := by decide +kernel
theorem dX10_focus_4 : decode cX10_focus 4 = .ok (.iload_n 1, 1) := by decide +kernel
theorem dX10_focus_5 : decode cX10_focus 5 = .ok (.invokevirtual 191, 3) := by decide +kernel
theorem dX10_focus_8 : decode cX10_focus 8 = .ok (.ifCond .ne 7, 3) := by decide +kernel
theorem dX10_focus_11 : decode cX10_focus 11 = .ok (.ldc2_w 171, 3) := by decide +kernel
theorem dX10_focus_14 : decode cX10_focus 14 = .ok (.lreturn, 1) := by decide +kernel
theorem dX10_focus_15 : decode cX10_focus 15 = .ok (.aload_n 0, 1) := by decide +kernel
theorem dX10_focus_16 : decode cX10_focus 16 = .ok (.getfield 26, 3) := by decide +kernel
theorem dX10_focus_19 : decode cX10_focus 19 = .ok (.getfield 156, 3) := by decide +kernel
theorem dX10_focus_22 : decode cX10_focus 22 = .ok (.iload_n 1, 1) := by decide +kernel
theorem dX10_focus_23 : decode cX10_focus 23 = .ok (.iconst 4, 1) := by decide +kernel
theorem dX10_focus_24 : decode cX10_focus 24 = .ok (.invokevirtual 217, 3) := by decide +kernel
theorem dX10_focus_27 : decode cX10_focus 27 = .ok (.istore_n 2, 1) := by decide +kernel
theorem dX10_focus_28 : decode cX10_focus 28 = .ok (.dconst 0, 1) := by decide +kernel
theorem dX10_focus_29 : decode cX10_focus 29 = .ok (.dstore_n 3, 1) := by decide +kernel
theorem dX10_focus_30 : decode cX10_focus 30 = .ok (.iconst 0, 1) := by decide +kernel
theorem dX10_focus_31 : decode cX10_focus 31 = .ok (.istore 5, 2) := by decide +kernel
theorem dX10_focus_33 : decode cX10_focus 33 = .ok (.iload 5, 2) := by decide +kernel
theorem dX10_focus_35 : decode cX10_focus 35 = .ok (.aload_n 0, 1) := by decide +kernel
theorem dX10_focus_36 : decode cX10_focus 36 = .ok (.getfield 26, 3) := by decide +kernel
theorem dX10_focus_39 : decode cX10_focus 39 = .ok (.getfield 81, 3) := by decide +kernel
theorem dX10_focus_42 : decode cX10_focus 42 = .ok (.getfield 281, 3) := by decide +kernel
theorem dX10_focus_45 : decode cX10_focus 45 = .ok (.if_icmp .ge 44, 3) := by decide +kernel
theorem dX10_focus_48 : decode cX10_focus 48 = .ok (.iload_n 2, 1) := by decide +kernel
theorem dX10_focus_49 : decode cX10_focus 49 = .ok (.ifCond .le 40, 3) := by decide +kernel
theorem dX10_focus_52 : decode cX10_focus 52 = .ok (.aload_n 0, 1) := by decide +kernel
theorem dX10_focus_53 : decode cX10_focus 53 = .ok (.getfield 26, 3) := by decide +kernel
theorem dX10_focus_56 : decode cX10_focus 56 = .ok (.getfield 156, 3) := by decide +kernel
theorem dX10_focus_59 : decode cX10_focus 59 = .ok (.getfield 287, 3) := by decide +kernel
theorem dX10_focus_62 : decode cX10_focus 62 = .ok (.iload 5, 2) := by decide +kernel
theorem dX10_focus_64 : decode cX10_focus 64 = .ok (.iload_n 1, 1) := by decide +kernel
theorem dX10_focus_65 : decode cX10_focus 65 = .ok (.invokestatic 160, 3) := by decide +kernel
theorem dX10_focus_68 : decode cX10_focus 68 = .ok (.iaload, 1) := by decide +kernel
theorem dX10_focus_69 : decode cX10_focus 69 = .ok (.i2d, 1) := by decide +kernel
theorem dX10_focus_70 : decode cX10_focus 70 = .ok (.iload_n 2, 1) := by decide +kernel
theorem dX10_focus_71 : decode cX10_focus 71 = .ok (.i2d, 1) := by decide +kernel
theorem dX10_focus_72 : decode cX10_focus 72 = .ok (.ddiv, 1) := by decide +kernel
theorem dX10_focus_73 : decode cX10_focus 73 = .ok (.dstore 6, 2) := by decide +kernel
theorem dX10_focus_75 : decode cX10_focus 75 = .ok (.dload_n 3, 1) := by decide +kernel
theorem dX10_focus_76 : decode cX10_focus 76 = .ok (.dload 6, 2) := by decide +kernel
theorem dX10_focus_78 : decode cX10_focus 78 = .ok (.dload 6, 2) := by decide +kernel
theorem dX10_focus_80 : decode cX10_focus 80 = .ok (.dmul, 1) := by decide +kernel
theorem dX10_focus_81 : decode cX10_focus 81 = .ok (.dadd, 1) := by decide +kernel
theorem dX10_focus_82 : decode cX10_focus 82 = .ok (.dstore_n 3, 1) := by decide +kernel
theorem dX10_focus_83 : decode cX10_focus 83 = .ok (.iinc 5 1, 3) := by decide +kernel
theorem dX10_focus_86 : decode cX10_focus 86 = .ok (.goto (-53), 3) := by decide +kernel
theorem dX10_focus_89 : decode cX10_focus 89 = .ok (.dload_n 3, 1) := by decide +kernel
theorem dX10_focus_90 : decode cX10_focus 90 = .ok (.invokestatic 177, 3) := by decide +kernel
theorem dX10_focus_93 : decode cX10_focus 93 = .ok (.lreturn, 1) := by decide +kernel
theorem dX10_carry_0 : decode cX10_carry 0 = .ok (.aload_n 0, 1) := by decide +kernel
theorem dX10_carry_1 : decode cX10_carry 1 = .ok (.getfield 26, 3) := by decide +kernel
theorem dX10_carry_4 : decode cX10_carry 4 = .ok (.iload_n 1, 1) := by decide +kernel
theorem dX10_carry_5 : decode cX10_carry 5 = .ok (.invokevirtual 191, 3) := by decide +kernel
theorem dX10_carry_8 : decode cX10_carry 8 = .ok (.ifCond .ne 5, 3) := by decide +kernel
theorem dX10_carry_11 : decode cX10_carry 11 = .ok (.iconst (-1), 1) := by decide +kernel
theorem dX10_carry_12 : decode cX10_carry 12 = .ok (.ireturn, 1) := by decide +kernel
theorem dX10_carry_13 : decode cX10_carry 13 = .ok (.aload_n 0, 1) := by decide +kernel
theorem dX10_carry_14 : decode cX10_carry 14 = .ok (.getfield 26, 3) := by decide +kernel
theorem dX10_carry_17 : decode cX10_carry 17 = .ok (.getfield 142, 3) := by decide +kernel
theorem dX10_carry_20 : decode cX10_carry 20 = .ok (.sipush 360, 3) := by decide +kernel
theorem dX10_carry_23 : decode cX10_carry 23 = .ok (.irem, 1) := by decide +kernel
theorem dX10_carry_24 : decode cX10_carry 24 = .ok (.sipush 270, 3) := by decide +kernel
theorem dX10_carry_27 : decode cX10_carry 27 = .ok (.if_icmp .lt 7, 3) := by decide +kernel
theorem dX10_carry_30 : decode cX10_carry 30 = .ok (.iconst 1, 1) := by decide +kernel
theorem dX10_carry_31 : decode cX10_carry 31 = .ok (.goto 4, 3) := by decide +kernel
theorem dX10_carry_34 : decode cX10_carry 34 = .ok (.iconst 0, 1) := by decide +kernel
theorem dX10_carry_35 : decode cX10_carry 35 = .ok (.istore_n 2, 1) := by decide +kernel
theorem dX10_carry_36 : decode cX10_carry 36 = .ok (.iload_n 2, 1) := by decide +kernel
theorem dX10_carry_37 : decode cX10_carry 37 = .ok (.ifCond .eq 7, 3) := by decide +kernel
theorem dX10_carry_40 : decode cX10_carry 40 = .ok (.iconst 0, 1) := by decide +kernel
theorem dX10_carry_41 : decode cX10_carry 41 = .ok (.goto 11, 3) := by decide +kernel
theorem dX10_carry_44 : decode cX10_carry 44 = .ok (.aload_n 0, 1) := by decide +kernel
theorem dX10_carry_45 : decode cX10_carry 45 = .ok (.getfield 26, 3) := by decide +kernel
theorem dX10_carry_48 : decode cX10_carry 48 = .ok (.iload_n 1, 1) := by decide +kernel
theorem dX10_carry_49 : decode cX10_carry 49 = .ok (.invokevirtual 290, 3) := by decide +kernel
theorem dX10_carry_52 : decode cX10_carry 52 = .ok (.ireturn, 1) := by decide +kernel
theorem dX10_window_0 : decode cX10_window 0 = .ok (.aload_n 0, 1) := by decide +kernel
theorem dX10_window_1 : decode cX10_window 1 = .ok (.getfield 26, 3) := by decide +kernel
theorem dX10_window_4 : decode cX10_window 4 = .ok (.invokevirtual 181, 3) := by decide +kernel
theorem dX10_window_7 : decode cX10_window 7 = .ok (.ifCond .ne 5, 3) := by decide +kernel
theorem dX10_window_10 : decode cX10_window 10 = .ok (.iconst (-1), 1) := by decide +kernel
theorem dX10_window_11 : decode cX10_window 11 = .ok (.ireturn, 1) := by decide +kernel
theorem dX10_window_12 : decode cX10_window 12 = .ok (.iconst 0, 1) := by decide +kernel
theorem dX10_window_13 : decode cX10_window 13 = .ok (.istore_n 1, 1) := by decide +kernel
theorem dX10_window_14 : decode cX10_window 14 = .ok (.iload_n 1, 1) := by decide +kernel
theorem dX10_window_15 : decode cX10_window 15 = .ok (.aload_n 0, 1) := by decide +kernel
theorem dX10_window_16 : decode cX10_window 16 = .ok (.getfield 26, 3) := by decide +kernel
theorem dX10_window_19 : decode cX10_window 19 = .ok (.getfield 81, 3) := by decide +kernel
theorem dX10_window_22 : decode cX10_window 22 = .ok (.getfield 82, 3) := by decide +kernel
theorem dX10_window_25 : decode cX10_window 25 = .ok (.if_icmp .ge 63, 3) := by decide +kernel
theorem dX10_window_28 : decode cX10_window 28 = .ok (.aload_n 0, 1) := by decide +kernel
theorem dX10_window_29 : decode cX10_window 29 = .ok (.getfield 26, 3) := by decide +kernel
theorem dX10_window_32 : decode cX10_window 32 = .ok (.getfield 156, 3) := by decide +kernel
theorem dX10_window_35 : decode cX10_window 35 = .ok (.iload_n 1, 1) := by decide +kernel
theorem dX10_window_36 : decode cX10_window 36 = .ok (.iconst 1, 1) := by decide +kernel
theorem dX10_window_37 : decode cX10_window 37 = .ok (.invokevirtual 217, 3) := by decide +kernel
theorem dX10_window_40 : decode cX10_window 40 = .ok (.aload_n 0, 1) := by decide +kernel
theorem dX10_window_41 : decode cX10_window 41 = .ok (.getfield 26, 3) := by decide +kernel
theorem dX10_window_44 : decode cX10_window 44 = .ok (.getfield 156, 3) := by decide +kernel
theorem dX10_window_47 : decode cX10_window 47 = .ok (.iload_n 1, 1) := by decide +kernel
theorem dX10_window_48 : decode cX10_window 48 = .ok (.iconst 2, 1) := by decide +kernel
theorem dX10_window_49 : decode cX10_window 49 = .ok (.invokevirtual 217, 3) := by decide +kernel
theorem dX10_window_52 : decode cX10_window 52 = .ok (.iadd, 1) := by decide +kernel
theorem dX10_window_53 : decode cX10_window 53 = .ok (.aload_n 0, 1) := by decide +kernel
theorem dX10_window_54 : decode cX10_window 54 = .ok (.getfield 26, 3) := by decide +kernel
theorem dX10_window_57 : decode cX10_window 57 = .ok (.getfield 156, 3) := by decide +kernel
theorem dX10_window_60 : decode cX10_window 60 = .ok (.iload_n 1, 1) := by decide +kernel
theorem dX10_window_61 : decode cX10_window 61 = .ok (.bipush 7, 2) := by decide +kernel
theorem dX10_window_63 : decode cX10_window 63 = .ok (.invokevirtual 217, 3) := by decide +kernel
theorem dX10_window_66 : decode cX10_window 66 = .ok (.iadd, 1) := by decide +kernel
theorem dX10_window_67 : decode cX10_window 67 = .ok (.istore_n 2, 1) := by decide +kernel
theorem dX10_window_68 : decode cX10_window 68 = .ok (.aload_n 0, 1) := by decide +kernel
theorem dX10_window_69 : decode cX10_window 69 = .ok (.getfield 26, 3) := by decide +kernel
theorem dX10_window_72 : decode cX10_window 72 = .ok (.iload_n 1, 1) := by decide +kernel
theorem dX10_window_73 : decode cX10_window 73 = .ok (.invokevirtual 293, 3) := by decide +kernel
theorem dX10_window_76 : decode cX10_window 76 = .ok (.iload_n 2, 1) := by decide +kernel
theorem dX10_window_77 : decode cX10_window 77 = .ok (.if_icmp .le 5, 3) := by decide +kernel
theorem dX10_window_80 : decode cX10_window 80 = .ok (.iconst 0, 1) := by decide +kernel
theorem dX10_window_81 : decode cX10_window 81 = .ok (.ireturn, 1) := by decide +kernel
theorem dX10_window_82 : decode cX10_window 82 = .ok (.iinc 1 1, 3) := by decide +kernel
theorem dX10_window_85 : decode cX10_window 85 = .ok (.goto (-71), 3) := by decide +kernel
theorem dX10_window_88 : decode cX10_window 88 = .ok (.iconst 1, 1) := by decide +kernel
theorem dX10_window_89 : decode cX10_window 89 = .ok (.ireturn, 1) := by decide +kernel
theorem dX10_shareAt_0 : decode cX10_shareAt 0 = .ok (.aload_n 0, 1) := by decide +kernel
theorem dX10_shareAt_1 : decode cX10_shareAt 1 = .ok (.getfield 26, 3) := by decide +kernel
theorem dX10_shareAt_4 : decode cX10_shareAt 4 = .ok (.iload_n 1, 1) := by decide +kernel
theorem dX10_shareAt_5 : decode cX10_shareAt 5 = .ok (.iload_n 2, 1) := by decide +kernel
theorem dX10_shareAt_6 : decode cX10_shareAt 6 = .ok (.invokevirtual 87, 3) := by decide +kernel
theorem dX10_shareAt_9 : decode cX10_shareAt 9 = .ok (.ifCond .eq 21, 3) := by decide +kernel
theorem dX10_shareAt_12 : decode cX10_shareAt 12 = .ok (.iload_n 3, 1) := by decide +kernel
theorem dX10_shareAt_13 : decode cX10_shareAt 13 = .ok (.getstatic 201, 3) := by decide +kernel
theorem dX10_shareAt_16 : decode cX10_shareAt 16 = .ok (.iconst 0, 1) := by decide +kernel
theorem dX10_shareAt_17 : decode cX10_shareAt 17 = .ok (.iaload, 1) := by decide +kernel
theorem dX10_shareAt_18 : decode cX10_shareAt 18 = .ok (.if_icmp .lt 12, 3) := by decide +kernel
theorem dX10_shareAt_21 : decode cX10_shareAt 21 = .ok (.iload_n 3, 1) := by decide +kernel
theorem dX10_shareAt_22 : decode cX10_shareAt 22 = .ok (.getstatic 204, 3) := by decide +kernel
theorem dX10_shareAt_25 : decode cX10_shareAt 25 = .ok (.iconst 0, 1) := by decide +kernel
theorem dX10_shareAt_26 : decode cX10_shareAt 26 = .ok (.iaload, 1) := by decide +kernel
theorem dX10_shareAt_27 : decode cX10_shareAt 27 = .ok (.if_icmp .le 5, 3) := by decide +kernel
theorem dX10_shareAt_30 : decode cX10_shareAt 30 = .ok (.iconst (-1), 1) := by decide +kernel
theorem dX10_shareAt_31 : decode cX10_shareAt 31 = .ok (.ireturn, 1) := by decide +kernel
theorem dX10_shareAt_32 : decode cX10_shareAt 32 = .ok (.aload_n 0, 1) := by decide +kernel
theorem dX10_shareAt_33 : decode cX10_shareAt 33 = .ok (.getfield 26, 3) := by decide +kernel
theorem dX10_shareAt_36 : decode cX10_shareAt 36 = .ok (.iload_n 1, 1) := by decide +kernel
theorem dX10_shareAt_37 : decode cX10_shareAt 37 = .ok (.iload_n 2, 1) := by decide +kernel
theorem dX10_shareAt_38 : decode cX10_shareAt 38 = .ok (.iload_n 3, 1) := by decide +kernel
theorem dX10_shareAt_39 : decode cX10_shareAt 39 = .ok (.aload_n 0, 1) := by decide +kernel
theorem dX10_shareAt_40 : decode cX10_shareAt 40 = .ok (.getfield 26, 3) := by decide +kernel
theorem dX10_shareAt_43 : decode cX10_shareAt 43 = .ok (.getfield 156, 3) := by decide +kernel
theorem dX10_shareAt_46 : decode cX10_shareAt 46 = .ok (.iload_n 2, 1) := by decide +kernel
theorem dX10_shareAt_47 : decode cX10_shareAt 47 = .ok (.iconst 1, 1) := by decide +kernel
theorem dX10_shareAt_48 : decode cX10_shareAt 48 = .ok (.invokevirtual 217, 3) := by decide +kernel
theorem dX10_shareAt_51 : decode cX10_shareAt 51 = .ok (.invokevirtual 296, 3) := by decide +kernel
theorem dX10_shareAt_54 : decode cX10_shareAt 54 = .ok (.ireturn, 1) := by decide +kernel
theorem dX10_speed_0 : decode cX10_speed 0 = .ok (.aload_n 0, 1) := by decide +kernel
theorem dX10_speed_1 : decode cX10_speed 1 = .ok (.getfield 26, 3) := by decide +kernel
theorem dX10_speed_4 : decode cX10_speed 4 = .ok (.getfield 106, 3) := by decide +kernel
theorem dX10_speed_7 : decode cX10_speed 7 = .ok (.iload_n 1, 1) := by decide +kernel
theorem dX10_speed_8 : decode cX10_speed 8 = .ok (.invokevirtual 110, 3) := by decide +kernel
theorem dX10_speed_11 : decode cX10_speed 11 = .ok (.ifCond .ne 7, 3) := by decide +kernel
theorem dX10_speed_14 : decode cX10_speed 14 = .ok (.ldc2_w 171, 3) := by decide +kernel
theorem dX10_speed_17 : decode cX10_speed 17 = .ok (.lreturn, 1) := by decide +kernel
theorem dX10_speed_18 : decode cX10_speed 18 = .ok (.aload_n 0, 1) := by decide +kernel
theorem dX10_speed_19 : decode cX10_speed 19 = .ok (.getfield 26, 3) := by decide +kernel
theorem dX10_speed_22 : decode cX10_speed 22 = .ok (.getfield 106, 3) := by decide +kernel
theorem dX10_speed_25 : decode cX10_speed 25 = .ok (.getfield 252, 3) := by decide +kernel
theorem dX10_speed_28 : decode cX10_speed 28 = .ok (.iload_n 1, 1) := by decide +kernel
theorem dX10_speed_29 : decode cX10_speed 29 = .ok (.iaload, 1) := by decide +kernel
theorem dX10_speed_30 : decode cX10_speed 30 = .ok (.istore_n 2, 1) := by decide +kernel
theorem dX10_speed_31 : decode cX10_speed 31 = .ok (.iload_n 2, 1) := by decide +kernel
theorem dX10_speed_32 : decode cX10_speed 32 = .ok (.ifCond .le 22, 3) := by decide +kernel
theorem dX10_speed_35 : decode cX10_speed 35 = .ok (.aload_n 0, 1) := by decide +kernel
theorem dX10_speed_36 : decode cX10_speed 36 = .ok (.getfield 26, 3) := by decide +kernel
theorem dX10_speed_39 : decode cX10_speed 39 = .ok (.getfield 106, 3) := by decide +kernel
theorem dX10_speed_42 : decode cX10_speed 42 = .ok (.getfield 299, 3) := by decide +kernel
theorem dX10_speed_45 : decode cX10_speed 45 = .ok (.iload_n 1, 1) := by decide +kernel
theorem dX10_speed_46 : decode cX10_speed 46 = .ok (.iaload, 1) := by decide +kernel
theorem dX10_speed_47 : decode cX10_speed 47 = .ok (.i2d, 1) := by decide +kernel
theorem dX10_speed_48 : decode cX10_speed 48 = .ok (.iload_n 2, 1) := by decide +kernel
theorem dX10_speed_49 : decode cX10_speed 49 = .ok (.i2d, 1) := by decide +kernel
theorem dX10_speed_50 : decode cX10_speed 50 = .ok (.ddiv, 1) := by decide +kernel
theorem dX10_speed_51 : decode cX10_speed 51 = .ok (.goto 6, 3) := by decide +kernel
theorem dX10_speed_54 : decode cX10_speed 54 = .ok (.ldc2_w 302, 3) := by decide +kernel
theorem dX10_speed_57 : decode cX10_speed 57 = .ok (.invokestatic 177, 3) := by decide +kernel
theorem dX10_speed_60 : decode cX10_speed 60 = .ok (.lreturn, 1) := by decide +kernel
theorem dX10_fastest_0 : decode cX10_fastest 0 = .ok (.aload_n 0, 1) := by decide +kernel
theorem dX10_fastest_1 : decode cX10_fastest 1 = .ok (.getfield 26, 3) := by decide +kernel
theorem dX10_fastest_4 : decode cX10_fastest 4 = .ok (.iload_n 1, 1) := by decide +kernel
theorem dX10_fastest_5 : decode cX10_fastest 5 = .ok (.invokevirtual 191, 3) := by decide +kernel
theorem dX10_fastest_8 : decode cX10_fastest 8 = .ok (.ifCond .ne 5, 3) := by decide +kernel
theorem dX10_fastest_11 : decode cX10_fastest 11 = .ok (.iconst (-1), 1) := by decide +kernel
theorem dX10_fastest_12 : decode cX10_fastest 12 = .ok (.ireturn, 1) := by decide +kernel
theorem dX10_fastest_13 : decode cX10_fastest 13 = .ok (.bipush (-2), 2) := by decide +kernel
theorem dX10_fastest_15 : decode cX10_fastest 15 = .ok (.istore_n 2, 1) := by decide +kernel
theorem dX10_fastest_16 : decode cX10_fastest 16 = .ok (.lconst 0, 1) := by decide +kernel
theorem dX10_fastest_17 : decode cX10_fastest 17 = .ok (.lstore_n 3, 1) := by decide +kernel
theorem dX10_fastest_18 : decode cX10_fastest 18 = .ok (.lconst 1, 1) := by decide +kernel
theorem dX10_fastest_19 : decode cX10_fastest 19 = .ok (.lstore 5, 2) := by decide +kernel
theorem dX10_fastest_21 : decode cX10_fastest 21 = .ok (.iconst 0, 1) := by decide +kernel
theorem dX10_fastest_22 : decode cX10_fastest 22 = .ok (.istore 7, 2) := by decide +kernel
theorem dX10_fastest_24 : decode cX10_fastest 24 = .ok (.iload 7, 2) := by decide +kernel
theorem dX10_fastest_26 : decode cX10_fastest 26 = .ok (.aload_n 0, 1) := by decide +kernel
theorem dX10_fastest_27 : decode cX10_fastest 27 = .ok (.getfield 26, 3) := by decide +kernel
theorem dX10_fastest_30 : decode cX10_fastest 30 = .ok (.getfield 81, 3) := by decide +kernel
theorem dX10_fastest_33 : decode cX10_fastest 33 = .ok (.getfield 281, 3) := by decide +kernel
theorem dX10_fastest_36 : decode cX10_fastest 36 = .ok (.if_icmp .ge 75, 3) := by decide +kernel
theorem dX10_fastest_39 : decode cX10_fastest 39 = .ok (.aload_n 0, 1) := by decide +kernel
theorem dX10_fastest_40 : decode cX10_fastest 40 = .ok (.getfield 26, 3) := by decide +kernel
theorem dX10_fastest_43 : decode cX10_fastest 43 = .ok (.getfield 106, 3) := by decide +kernel
theorem dX10_fastest_46 : decode cX10_fastest 46 = .ok (.iload 7, 2) := by decide +kernel
theorem dX10_fastest_48 : decode cX10_fastest 48 = .ok (.iload_n 1, 1) := by decide +kernel
theorem dX10_fastest_49 : decode cX10_fastest 49 = .ok (.invokevirtual 304, 3) := by decide +kernel
theorem dX10_fastest_52 : decode cX10_fastest 52 = .ok (.i2l, 1) := by decide +kernel
theorem dX10_fastest_53 : decode cX10_fastest 53 = .ok (.lstore 8, 2) := by decide +kernel
theorem dX10_fastest_55 : decode cX10_fastest 55 = .ok (.aload_n 0, 1) := by decide +kernel
theorem dX10_fastest_56 : decode cX10_fastest 56 = .ok (.getfield 26, 3) := by decide +kernel
theorem dX10_fastest_59 : decode cX10_fastest 59 = .ok (.getfield 106, 3) := by decide +kernel
theorem dX10_fastest_62 : decode cX10_fastest 62 = .ok (.iload 7, 2) := by decide +kernel
theorem dX10_fastest_64 : decode cX10_fastest 64 = .ok (.iload_n 1, 1) := by decide +kernel
theorem dX10_fastest_65 : decode cX10_fastest 65 = .ok (.invokevirtual 307, 3) := by decide +kernel
theorem dX10_fastest_68 : decode cX10_fastest 68 = .ok (.i2l, 1) := by decide +kernel
theorem dX10_fastest_69 : decode cX10_fastest 69 = .ok (.lstore 10, 2) := by decide +kernel
theorem dX10_fastest_71 : decode cX10_fastest 71 = .ok (.lload 8, 2) := by decide +kernel
theorem dX10_fastest_73 : decode cX10_fastest 73 = .ok (.lconst 0, 1) := by decide +kernel
theorem dX10_fastest_74 : decode cX10_fastest 74 = .ok (.lcmp, 1) := by decide +kernel
theorem dX10_fastest_75 : decode cX10_fastest 75 = .ok (.ifCond .le 30, 3) := by decide +kernel
theorem dX10_fastest_78 : decode cX10_fastest 78 = .ok (.iload_n 2, 1) := by decide +kernel
theorem dX10_fastest_79 : decode cX10_fastest 79 = .ok (.ifCond .lt 16, 3) := by decide +kernel
theorem dX10_fastest_82 : decode cX10_fastest 82 = .ok (.lload 10, 2) := by decide +kernel
theorem dX10_fastest_84 : decode cX10_fastest 84 = .ok (.lload 5, 2) := by decide +kernel
theorem dX10_fastest_86 : decode cX10_fastest 86 = .ok (.lmul, 1) := by decide +kernel
theorem dX10_fastest_87 : decode cX10_fastest 87 = .ok (.lload_n 3, 1) := by decide +kernel
theorem dX10_fastest_88 : decode cX10_fastest 88 = .ok (.lload 8, 2) := by decide +kernel
theorem dX10_fastest_90 : decode cX10_fastest 90 = .ok (.lmul, 1) := by decide +kernel
theorem dX10_fastest_91 : decode cX10_fastest 91 = .ok (.lcmp, 1) := by decide +kernel
theorem dX10_fastest_92 : decode cX10_fastest 92 = .ok (.ifCond .ge 13, 3) := by decide +kernel
theorem dX10_fastest_95 : decode cX10_fastest 95 = .ok (.iload 7, 2) := by decide +kernel
theorem dX10_fastest_97 : decode cX10_fastest 97 = .ok (.istore_n 2, 1) := by decide +kernel
theorem dX10_fastest_98 : decode cX10_fastest 98 = .ok (.lload 10, 2) := by decide +kernel
theorem dX10_fastest_100 : decode cX10_fastest 100 = .ok (.lstore_n 3, 1) := by decide +kernel
theorem dX10_fastest_101 : decode cX10_fastest 101 = .ok (.lload 8, 2) := by decide +kernel
theorem dX10_fastest_103 : decode cX10_fastest 103 = .ok (.lstore 5, 2) := by decide +kernel
theorem dX10_fastest_105 : decode cX10_fastest 105 = .ok (.iinc 7 1, 3) := by decide +kernel
theorem dX10_fastest_108 : decode cX10_fastest 108 = .ok (.goto (-84), 3) := by decide +kernel
theorem dX10_fastest_111 : decode cX10_fastest 111 = .ok (.iload_n 2, 1) := by decide +kernel
theorem dX10_fastest_112 : decode cX10_fastest 112 = .ok (.ireturn, 1) := by decide +kernel
theorem dX10_log_0 : decode cX10_log 0 = .ok (.aload_n 0, 1) := by decide +kernel
theorem dX10_log_1 : decode cX10_log 1 = .ok (.getfield 26, 3) := by decide +kernel
theorem dX10_log_4 : decode cX10_log 4 = .ok (.iload_n 2, 1) := by decide +kernel
theorem dX10_log_5 : decode cX10_log 5 = .ok (.invokevirtual 191, 3) := by decide +kernel
theorem dX10_log_8 : decode cX10_log 8 = .ok (.ifCond .eq 30, 3) := by decide +kernel
theorem dX10_log_11 : decode cX10_log 11 = .ok (.iload_n 1, 1) := by decide +kernel
theorem dX10_log_12 : decode cX10_log 12 = .ok (.ifCond .lt 26, 3) := by decide +kernel
theorem dX10_log_15 : decode cX10_log 15 = .ok (.iload_n 1, 1) := by decide +kernel
theorem dX10_log_16 : decode cX10_log 16 = .ok (.aload_n 0, 1) := by decide +kernel
theorem dX10_log_17 : decode cX10_log 17 = .ok (.getfield 26, 3) := by decide +kernel
theorem dX10_log_20 : decode cX10_log 20 = .ok (.getfield 156, 3) := by decide +kernel
theorem dX10_log_23 : decode cX10_log 23 = .ok (.getfield 310, 3) := by decide +kernel
theorem dX10_log_26 : decode cX10_log 26 = .ok (.if_icmp .ge 12, 3) := by decide +kernel
theorem dX10_log_29 : decode cX10_log 29 = .ok (.iload_n 3, 1) := by decide +kernel
theorem dX10_log_30 : decode cX10_log 30 = .ok (.ifCond .lt 8, 3) := by decide +kernel
theorem dX10_log_33 : decode cX10_log 33 = .ok (.iload_n 3, 1) := by decide +kernel
theorem dX10_log_34 : decode cX10_log 34 = .ok (.iconst 5, 1) := by decide +kernel
theorem dX10_log_35 : decode cX10_log 35 = .ok (.if_icmp .lt 5, 3) := by decide +kernel
theorem dX10_log_38 : decode cX10_log 38 = .ok (.iconst (-1), 1) := by decide +kernel
theorem dX10_log_39 : decode cX10_log 39 = .ok (.ireturn, 1) := by decide +kernel
theorem dX10_log_40 : decode cX10_log 40 = .ok (.aload_n 0, 1) := by decide +kernel
theorem dX10_log_41 : decode cX10_log 41 = .ok (.getfield 26, 3) := by decide +kernel
theorem dX10_log_44 : decode cX10_log 44 = .ok (.getfield 156, 3) := by decide +kernel
theorem dX10_log_47 : decode cX10_log 47 = .ok (.getfield 313, 3) := by decide +kernel
theorem dX10_log_50 : decode cX10_log 50 = .ok (.iload_n 1, 1) := by decide +kernel
theorem dX10_log_51 : decode cX10_log 51 = .ok (.iload_n 2, 1) := by decide +kernel
theorem dX10_log_52 : decode cX10_log 52 = .ok (.iload_n 3, 1) := by decide +kernel
theorem dX10_log_53 : decode cX10_log 53 = .ok (.invokestatic 316, 3) := by decide +kernel
theorem dX10_log_56 : decode cX10_log 56 = .ok (.iaload, 1) := by decide +kernel
theorem dX10_log_57 : decode cX10_log 57 = .ok (.ireturn, 1) := by decide +kernel
theorem dX10_risk_0 : decode cX10_risk 0 = .ok (.iload_n 1, 1) := by decide +kernel
theorem dX10_risk_1 : decode cX10_risk 1 = .ok (.iconst (-1), 1) := by decide +kernel
theorem dX10_risk_2 : decode cX10_risk 2 = .ok (.if_icmp .ge 5, 3) := by decide +kernel
theorem dX10_risk_5 : decode cX10_risk 5 = .ok (.iconst (-1), 1) := by decide +kernel
theorem dX10_risk_6 : decode cX10_risk 6 = .ok (.ireturn, 1) := by decide +kernel
theorem dX10_risk_7 : decode cX10_risk 7 = .ok (.iconst 0, 1) := by decide +kernel
theorem dX10_risk_8 : decode cX10_risk 8 = .ok (.istore_n 2, 1) := by decide +kernel
theorem dX10_risk_9 : decode cX10_risk 9 = .ok (.iconst 0, 1) := by decide +kernel
theorem dX10_risk_10 : decode cX10_risk 10 = .ok (.istore_n 3, 1) := by decide +kernel
theorem dX10_risk_11 : decode cX10_risk 11 = .ok (.iload_n 3, 1) := by decide +kernel
theorem dX10_risk_12 : decode cX10_risk 12 = .ok (.aload_n 0, 1) := by decide +kernel
theorem dX10_risk_13 : decode cX10_risk 13 = .ok (.getfield 26, 3) := by decide +kernel
theorem dX10_risk_16 : decode cX10_risk 16 = .ok (.getfield 106, 3) := by decide +kernel
theorem dX10_risk_19 : decode cX10_risk 19 = .ok (.getfield 139, 3) := by decide +kernel
theorem dX10_risk_22 : decode cX10_risk 22 = .ok (.if_icmp .ge 44, 3) := by decide +kernel
theorem dX10_risk_25 : decode cX10_risk 25 = .ok (.aload_n 0, 1) := by decide +kernel
theorem dX10_risk_26 : decode cX10_risk 26 = .ok (.getfield 26, 3) := by decide +kernel
theorem dX10_risk_29 : decode cX10_risk 29 = .ok (.getfield 106, 3) := by decide +kernel
theorem dX10_risk_32 : decode cX10_risk 32 = .ok (.iload_n 3, 1) := by decide +kernel
theorem dX10_risk_33 : decode cX10_risk 33 = .ok (.invokevirtual 115, 3) := by decide +kernel
theorem dX10_risk_36 : decode cX10_risk 36 = .ok (.ifCond .eq 24, 3) := by decide +kernel
theorem dX10_risk_39 : decode cX10_risk 39 = .ok (.aload_n 0, 1) := by decide +kernel
theorem dX10_risk_40 : decode cX10_risk 40 = .ok (.getfield 26, 3) := by decide +kernel
theorem dX10_risk_43 : decode cX10_risk 43 = .ok (.iload_n 3, 1) := by decide +kernel
theorem dX10_risk_44 : decode cX10_risk 44 = .ok (.invokevirtual 319, 3) := by decide +kernel
theorem dX10_risk_47 : decode cX10_risk 47 = .ok (.ifCond .eq 13, 3) := by decide +kernel
theorem dX10_risk_50 : decode cX10_risk 50 = .ok (.iload_n 2, 1) := by decide +kernel
theorem dX10_risk_51 : decode cX10_risk 51 = .ok (.iload_n 1, 1) := by decide +kernel
theorem dX10_risk_52 : decode cX10_risk 52 = .ok (.if_icmp .ne 5, 3) := by decide +kernel
theorem dX10_risk_55 : decode cX10_risk 55 = .ok (.iload_n 3, 1) := by decide +kernel
theorem dX10_risk_56 : decode cX10_risk 56 = .ok (.ireturn, 1) := by decide +kernel
theorem dX10_risk_57 : decode cX10_risk 57 = .ok (.iinc 2 1, 3) := by decide +kernel
theorem dX10_risk_60 : decode cX10_risk 60 = .ok (.iinc 3 1, 3) := by decide +kernel
theorem dX10_risk_63 : decode cX10_risk 63 = .ok (.goto (-52), 3) := by decide +kernel
theorem dX10_risk_66 : decode cX10_risk 66 = .ok (.iload_n 1, 1) := by decide +kernel
theorem dX10_risk_67 : decode cX10_risk 67 = .ok (.iconst (-1), 1) := by decide +kernel
theorem dX10_risk_68 : decode cX10_risk 68 = .ok (.if_icmp .ne 7, 3) := by decide +kernel
theorem dX10_risk_71 : decode cX10_risk 71 = .ok (.iload_n 2, 1) := by decide +kernel
theorem dX10_risk_72 : decode cX10_risk 72 = .ok (.goto 5, 3) := by decide +kernel
theorem dX10_risk_75 : decode cX10_risk 75 = .ok (.bipush (-2), 2) := by decide +kernel
theorem dX10_risk_77 : decode cX10_risk 77 = .ok (.ireturn, 1) := by decide +kernel
theorem dX10_lacks_0 : decode cX10_lacks 0 = .ok (.aload_n 0, 1) := by decide +kernel
theorem dX10_lacks_1 : decode cX10_lacks 1 = .ok (.getfield 26, 3) := by decide +kernel
theorem dX10_lacks_4 : decode cX10_lacks 4 = .ok (.iload_n 1, 1) := by decide +kernel
theorem dX10_lacks_5 : decode cX10_lacks 5 = .ok (.iload_n 2, 1) := by decide +kernel
theorem dX10_lacks_6 : decode cX10_lacks 6 = .ok (.invokevirtual 87, 3) := by decide +kernel
theorem dX10_lacks_9 : decode cX10_lacks 9 = .ok (.ifCond .eq 10, 3) := by decide +kernel
theorem dX10_lacks_12 : decode cX10_lacks 12 = .ok (.iload_n 3, 1) := by decide +kernel
theorem dX10_lacks_13 : decode cX10_lacks 13 = .ok (.invokestatic 91, 3) := by decide +kernel
theorem dX10_lacks_16 : decode cX10_lacks 16 = .ok (.ifCond .ne 5, 3) := by decide +kernel
theorem dX10_lacks_19 : decode cX10_lacks 19 = .ok (.iconst (-1), 1) := by decide +kernel
theorem dX10_lacks_20 : decode cX10_lacks 20 = .ok (.ireturn, 1) := by decide +kernel
theorem dX10_lacks_21 : decode cX10_lacks 21 = .ok (.aload_n 0, 1) := by decide +kernel
theorem dX10_lacks_22 : decode cX10_lacks 22 = .ok (.getfield 26, 3) := by decide +kernel
theorem dX10_lacks_25 : decode cX10_lacks 25 = .ok (.getfield 106, 3) := by decide +kernel
theorem dX10_lacks_28 : decode cX10_lacks 28 = .ok (.astore 4, 2) := by decide +kernel
theorem dX10_lacks_30 : decode cX10_lacks 30 = .ok (.iconst 0, 1) := by decide +kernel
theorem dX10_lacks_31 : decode cX10_lacks 31 = .ok (.istore 5, 2) := by decide +kernel
theorem dX10_lacks_33 : decode cX10_lacks 33 = .ok (.iconst 0, 1) := by decide +kernel
theorem dX10_lacks_34 : decode cX10_lacks 34 = .ok (.istore 6, 2) := by decide +kernel
theorem dX10_lacks_36 : decode cX10_lacks 36 = .ok (.iload 6, 2) := by decide +kernel
theorem dX10_lacks_38 : decode cX10_lacks 38 = .ok (.aload 4, 2) := by decide +kernel
theorem dX10_lacks_40 : decode cX10_lacks 40 = .ok (.getfield 139, 3) := by decide +kernel
theorem dX10_lacks_43 : decode cX10_lacks 43 = .ok (.if_icmp .ge 33, 3) := by decide +kernel
theorem dX10_lacks_46 : decode cX10_lacks 46 = .ok (.aload 4, 2) := by decide +kernel
theorem dX10_lacks_48 : decode cX10_lacks 48 = .ok (.iload 6, 2) := by decide +kernel
theorem dX10_lacks_50 : decode cX10_lacks 50 = .ok (.iload_n 1, 1) := by decide +kernel
theorem dX10_lacks_51 : decode cX10_lacks 51 = .ok (.iload_n 2, 1) := by decide +kernel
theorem dX10_lacks_52 : decode cX10_lacks 52 = .ok (.invokevirtual 322, 3) := by decide +kernel
theorem dX10_lacks_55 : decode cX10_lacks 55 = .ok (.ifCond .eq 15, 3) := by decide +kernel
theorem dX10_lacks_58 : decode cX10_lacks 58 = .ok (.iload 5, 2) := by decide +kernel
theorem dX10_lacks_60 : decode cX10_lacks 60 = .ok (.aload 4, 2) := by decide +kernel
theorem dX10_lacks_62 : decode cX10_lacks 62 = .ok (.iload 6, 2) := by decide +kernel
theorem dX10_lacks_64 : decode cX10_lacks 64 = .ok (.invokevirtual 118, 3) := by decide +kernel
theorem dX10_lacks_67 : decode cX10_lacks 67 = .ok (.iadd, 1) := by decide +kernel
theorem dX10_lacks_68 : decode cX10_lacks 68 = .ok (.istore 5, 2) := by decide +kernel
theorem dX10_lacks_70 : decode cX10_lacks 70 = .ok (.iinc 6 1, 3) := by decide +kernel
theorem dX10_lacks_73 : decode cX10_lacks 73 = .ok (.goto (-37), 3) := by decide +kernel
theorem dX10_lacks_76 : decode cX10_lacks 76 = .ok (.iconst 0, 1) := by decide +kernel
theorem dX10_lacks_77 : decode cX10_lacks 77 = .ok (.iload_n 3, 1) := by decide +kernel
theorem dX10_lacks_78 : decode cX10_lacks 78 = .ok (.iload 5, 2) := by decide +kernel
theorem dX10_lacks_80 : decode cX10_lacks 80 = .ok (.isub, 1) := by decide +kernel
theorem dX10_lacks_81 : decode cX10_lacks 81 = .ok (.invokestatic 326, 3) := by decide +kernel
theorem dX10_lacks_84 : decode cX10_lacks 84 = .ok (.ireturn, 1) := by decide +kernel
theorem dX10_pace_0 : decode cX10_pace 0 = .ok (.aload_n 0, 1) := by decide +kernel
theorem dX10_pace_1 : decode cX10_pace 1 = .ok (.getfield 26, 3) := by decide +kernel
theorem dX10_pace_4 : decode cX10_pace 4 = .ok (.iload_n 1, 1) := by decide +kernel
theorem dX10_pace_5 : decode cX10_pace 5 = .ok (.invokevirtual 133, 3) := by decide +kernel
theorem dX10_pace_8 : decode cX10_pace 8 = .ok (.ifCond .ne 5, 3) := by decide +kernel
theorem dX10_pace_11 : decode cX10_pace 11 = .ok (.iconst (-1), 1) := by decide +kernel
theorem dX10_pace_12 : decode cX10_pace 12 = .ok (.ireturn, 1) := by decide +kernel
theorem dX10_pace_13 : decode cX10_pace 13 = .ok (.aload_n 0, 1) := by decide +kernel
theorem dX10_pace_14 : decode cX10_pace 14 = .ok (.getfield 26, 3) := by decide +kernel
theorem dX10_pace_17 : decode cX10_pace 17 = .ok (.getfield 142, 3) := by decide +kernel
theorem dX10_pace_20 : decode cX10_pace 20 = .ok (.sipush 360, 3) := by decide +kernel
theorem dX10_pace_23 : decode cX10_pace 23 = .ok (.irem, 1) := by decide +kernel
theorem dX10_pace_24 : decode cX10_pace 24 = .ok (.iconst 1, 1) := by decide +kernel
theorem dX10_pace_25 : decode cX10_pace 25 = .ok (.iadd, 1) := by decide +kernel
theorem dX10_pace_26 : decode cX10_pace 26 = .ok (.istore_n 2, 1) := by decide +kernel
theorem dX10_pace_27 : decode cX10_pace 27 = .ok (.aload_n 0, 1) := by decide +kernel
theorem dX10_pace_28 : decode cX10_pace 28 = .ok (.getfield 26, 3) := by decide +kernel
theorem dX10_pace_31 : decode cX10_pace 31 = .ok (.getfield 220, 3) := by decide +kernel
theorem dX10_pace_34 : decode cX10_pace 34 = .ok (.iload_n 1, 1) := by decide +kernel
theorem dX10_pace_35 : decode cX10_pace 35 = .ok (.invokevirtual 331, 3) := by decide +kernel
theorem dX10_pace_38 : decode cX10_pace 38 = .ok (.i2f, 1) := by decide +kernel
theorem dX10_pace_39 : decode cX10_pace 39 = .ok (.iload_n 2, 1) := by decide +kernel
theorem dX10_pace_40 : decode cX10_pace 40 = .ok (.i2f, 1) := by decide +kernel
theorem dX10_pace_41 : decode cX10_pace 41 = .ok (.fdiv, 1) := by decide +kernel
theorem dX10_pace_42 : decode cX10_pace 42 = .ok (.invokestatic 334, 3) := by decide +kernel
theorem dX10_pace_45 : decode cX10_pace 45 = .ok (.ireturn, 1) := by decide +kernel
theorem dX10_peak_0 : decode cX10_peak 0 = .ok (.aload_n 0, 1) := by decide +kernel
theorem dX10_peak_1 : decode cX10_peak 1 = .ok (.getfield 26, 3) := by decide +kernel
theorem dX10_peak_4 : decode cX10_peak 4 = .ok (.iload_n 1, 1) := by decide +kernel
theorem dX10_peak_5 : decode cX10_peak 5 = .ok (.invokevirtual 191, 3) := by decide +kernel
theorem dX10_peak_8 : decode cX10_peak 8 = .ok (.ifCond .eq 23, 3) := by decide +kernel
theorem dX10_peak_11 : decode cX10_peak 11 = .ok (.iload_n 2, 1) := by decide +kernel
theorem dX10_peak_12 : decode cX10_peak 12 = .ok (.iconst 1, 1) := by decide +kernel
theorem dX10_peak_13 : decode cX10_peak 13 = .ok (.if_icmp .lt 18, 3) := by decide +kernel
theorem dX10_peak_16 : decode cX10_peak 16 = .ok (.iload_n 2, 1) := by decide +kernel
theorem dX10_peak_17 : decode cX10_peak 17 = .ok (.bipush 12, 2) := by decide +kernel
theorem dX10_peak_19 : decode cX10_peak 19 = .ok (.if_icmp .gt 12, 3) := by decide +kernel
theorem dX10_peak_22 : decode cX10_peak 22 = .ok (.iload_n 3, 1) := by decide +kernel
theorem dX10_peak_23 : decode cX10_peak 23 = .ok (.ifCond .lt 8, 3) := by decide +kernel
theorem dX10_peak_26 : decode cX10_peak 26 = .ok (.iload_n 3, 1) := by decide +kernel
theorem dX10_peak_27 : decode cX10_peak 27 = .ok (.iconst 1, 1) := by decide +kernel
theorem dX10_peak_28 : decode cX10_peak 28 = .ok (.if_icmp .le 5, 3) := by decide +kernel
theorem dX10_peak_31 : decode cX10_peak 31 = .ok (.iconst (-1), 1) := by decide +kernel
theorem dX10_peak_32 : decode cX10_peak 32 = .ok (.ireturn, 1) := by decide +kernel
theorem dX10_peak_33 : decode cX10_peak 33 = .ok (.iconst 0, 1) := by decide +kernel
theorem dX10_peak_34 : decode cX10_peak 34 = .ok (.istore 4, 2) := by decide +kernel
theorem dX10_peak_36 : decode cX10_peak 36 = .ok (.aload_n 0, 1) := by decide +kernel
theorem dX10_peak_37 : decode cX10_peak 37 = .ok (.getfield 26, 3) := by decide +kernel
theorem dX10_peak_40 : decode cX10_peak 40 = .ok (.getfield 220, 3) := by decide +kernel
theorem dX10_peak_43 : decode cX10_peak 43 = .ok (.iload_n 1, 1) := by decide +kernel
theorem dX10_peak_44 : decode cX10_peak 44 = .ok (.iconst 0, 1) := by decide +kernel
theorem dX10_peak_45 : decode cX10_peak 45 = .ok (.iload_n 2, 1) := by decide +kernel
theorem dX10_peak_46 : decode cX10_peak 46 = .ok (.invokevirtual 338, 3) := by decide +kernel
theorem dX10_peak_49 : decode cX10_peak 49 = .ok (.istore 5, 2) := by decide +kernel
theorem dX10_peak_51 : decode cX10_peak 51 = .ok (.iconst 1, 1) := by decide +kernel
theorem dX10_peak_52 : decode cX10_peak 52 = .ok (.istore 6, 2) := by decide +kernel
theorem dX10_peak_54 : decode cX10_peak 54 = .ok (.iload 6, 2) := by decide +kernel
theorem dX10_peak_56 : decode cX10_peak 56 = .ok (.iload_n 2, 1) := by decide +kernel
theorem dX10_peak_57 : decode cX10_peak 57 = .ok (.iadd, 1) := by decide +kernel
theorem dX10_peak_58 : decode cX10_peak 58 = .ok (.bipush 12, 2) := by decide +kernel
theorem dX10_peak_60 : decode cX10_peak 60 = .ok (.if_icmp .gt 40, 3) := by decide +kernel
theorem dX10_peak_63 : decode cX10_peak 63 = .ok (.aload_n 0, 1) := by decide +kernel
theorem dX10_peak_64 : decode cX10_peak 64 = .ok (.getfield 26, 3) := by decide +kernel
theorem dX10_peak_67 : decode cX10_peak 67 = .ok (.getfield 220, 3) := by decide +kernel
theorem dX10_peak_70 : decode cX10_peak 70 = .ok (.iload_n 1, 1) := by decide +kernel
theorem dX10_peak_71 : decode cX10_peak 71 = .ok (.iload 6, 2) := by decide +kernel
theorem dX10_peak_73 : decode cX10_peak 73 = .ok (.iload_n 2, 1) := by decide +kernel
theorem dX10_peak_74 : decode cX10_peak 74 = .ok (.invokevirtual 338, 3) := by decide +kernel
theorem dX10_peak_77 : decode cX10_peak 77 = .ok (.istore 7, 2) := by decide +kernel
theorem dX10_peak_79 : decode cX10_peak 79 = .ok (.iload 7, 2) := by decide +kernel
theorem dX10_peak_81 : decode cX10_peak 81 = .ok (.iload 5, 2) := by decide +kernel
theorem dX10_peak_83 : decode cX10_peak 83 = .ok (.if_icmp .le 11, 3) := by decide +kernel
theorem dX10_peak_86 : decode cX10_peak 86 = .ok (.iload 7, 2) := by decide +kernel
theorem dX10_peak_88 : decode cX10_peak 88 = .ok (.istore 5, 2) := by decide +kernel
theorem dX10_peak_90 : decode cX10_peak 90 = .ok (.iload 6, 2) := by decide +kernel
theorem dX10_peak_92 : decode cX10_peak 92 = .ok (.istore 4, 2) := by decide +kernel
theorem dX10_peak_94 : decode cX10_peak 94 = .ok (.iinc 6 1, 3) := by decide +kernel
theorem dX10_peak_97 : decode cX10_peak 97 = .ok (.goto (-43), 3) := by decide +kernel
theorem dX10_peak_100 : decode cX10_peak 100 = .ok (.iload_n 3, 1) := by decide +kernel
theorem dX10_peak_101 : decode cX10_peak 101 = .ok (.ifCond .ne 8, 3) := by decide +kernel
theorem dX10_peak_104 : decode cX10_peak 104 = .ok (.iload 4, 2) := by decide +kernel
theorem dX10_peak_106 : decode cX10_peak 106 = .ok (.goto 5, 3) := by decide +kernel
theorem dX10_peak_109 : decode cX10_peak 109 = .ok (.iload 5, 2) := by decide +kernel
theorem dX10_peak_111 : decode cX10_peak 111 = .ok (.ireturn, 1) := by decide +kernel
theorem dX10_even_0 : decode cX10_even 0 = .ok (.aload_n 0, 1) := by decide +kernel
theorem dX10_even_1 : decode cX10_even 1 = .ok (.getfield 26, 3) := by decide +kernel
theorem dX10_even_4 : decode cX10_even 4 = .ok (.iload_n 1, 1) := by decide +kernel
theorem dX10_even_5 : decode cX10_even 5 = .ok (.iload_n 2, 1) := by decide +kernel
theorem dX10_even_6 : decode cX10_even 6 = .ok (.invokevirtual 87, 3) := by decide +kernel
theorem dX10_even_9 : decode cX10_even 9 = .ok (.ifCond .eq 21, 3) := by decide +kernel
theorem dX10_even_12 : decode cX10_even 12 = .ok (.aload_n 0, 1) := by decide +kernel
theorem dX10_even_13 : decode cX10_even 13 = .ok (.getfield 26, 3) := by decide +kernel
theorem dX10_even_16 : decode cX10_even 16 = .ok (.getfield 156, 3) := by decide +kernel
theorem dX10_even_19 : decode cX10_even 19 = .ok (.iload_n 1, 1) := by decide +kernel
theorem dX10_even_20 : decode cX10_even 20 = .ok (.iload_n 2, 1) := by decide +kernel
theorem dX10_even_21 : decode cX10_even 21 = .ok (.invokestatic 160, 3) := by decide +kernel
theorem dX10_even_24 : decode cX10_even 24 = .ok (.invokevirtual 163, 3) := by decide +kernel
theorem dX10_even_27 : decode cX10_even 27 = .ok (.ifCond .eq 5, 3) := by decide +kernel
theorem dX10_even_30 : decode cX10_even 30 = .ok (.iconst (-1), 1) := by decide +kernel
theorem dX10_even_31 : decode cX10_even 31 = .ok (.ireturn, 1) := by decide +kernel
theorem dX10_even_32 : decode cX10_even 32 = .ok (.iconst 0, 1) := by decide +kernel
theorem dX10_even_33 : decode cX10_even 33 = .ok (.istore_n 3, 1) := by decide +kernel
theorem dX10_even_34 : decode cX10_even 34 = .ok (.iconst 0, 1) := by decide +kernel
theorem dX10_even_35 : decode cX10_even 35 = .ok (.istore 4, 2) := by decide +kernel
theorem dX10_even_37 : decode cX10_even 37 = .ok (.iconst 0, 1) := by decide +kernel
theorem dX10_even_38 : decode cX10_even 38 = .ok (.istore 5, 2) := by decide +kernel
theorem dX10_even_40 : decode cX10_even 40 = .ok (.iload 5, 2) := by decide +kernel
theorem dX10_even_42 : decode cX10_even 42 = .ok (.aload_n 0, 1) := by decide +kernel
theorem dX10_even_43 : decode cX10_even 43 = .ok (.getfield 26, 3) := by decide +kernel
theorem dX10_even_46 : decode cX10_even 46 = .ok (.getfield 81, 3) := by decide +kernel
theorem dX10_even_49 : decode cX10_even 49 = .ok (.getfield 281, 3) := by decide +kernel
theorem dX10_even_52 : decode cX10_even 52 = .ok (.if_icmp .ge 47, 3) := by decide +kernel
theorem dX10_even_55 : decode cX10_even 55 = .ok (.aload_n 0, 1) := by decide +kernel
theorem dX10_even_56 : decode cX10_even 56 = .ok (.getfield 26, 3) := by decide +kernel
theorem dX10_even_59 : decode cX10_even 59 = .ok (.getfield 156, 3) := by decide +kernel
theorem dX10_even_62 : decode cX10_even 62 = .ok (.iload 5, 2) := by decide +kernel
theorem dX10_even_64 : decode cX10_even 64 = .ok (.iload_n 2, 1) := by decide +kernel
theorem dX10_even_65 : decode cX10_even 65 = .ok (.invokestatic 160, 3) := by decide +kernel
theorem dX10_even_68 : decode cX10_even 68 = .ok (.invokevirtual 163, 3) := by decide +kernel
theorem dX10_even_71 : decode cX10_even 71 = .ok (.ifCond .ne 22, 3) := by decide +kernel
theorem dX10_even_74 : decode cX10_even 74 = .ok (.iinc 3 1, 3) := by decide +kernel
theorem dX10_even_77 : decode cX10_even 77 = .ok (.iload 4, 2) := by decide +kernel
theorem dX10_even_79 : decode cX10_even 79 = .ok (.iload 5, 2) := by decide +kernel
theorem dX10_even_81 : decode cX10_even 81 = .ok (.iload_n 1, 1) := by decide +kernel
theorem dX10_even_82 : decode cX10_even 82 = .ok (.if_icmp .ge 7, 3) := by decide +kernel
theorem dX10_even_85 : decode cX10_even 85 = .ok (.iconst 1, 1) := by decide +kernel
theorem dX10_even_86 : decode cX10_even 86 = .ok (.goto 4, 3) := by decide +kernel
theorem dX10_even_89 : decode cX10_even 89 = .ok (.iconst 0, 1) := by decide +kernel
theorem dX10_even_90 : decode cX10_even 90 = .ok (.iadd, 1) := by decide +kernel
theorem dX10_even_91 : decode cX10_even 91 = .ok (.istore 4, 2) := by decide +kernel
theorem dX10_even_93 : decode cX10_even 93 = .ok (.iinc 5 1, 3) := by decide +kernel
theorem dX10_even_96 : decode cX10_even 96 = .ok (.goto (-56), 3) := by decide +kernel
theorem dX10_even_99 : decode cX10_even 99 = .ok (.iload_n 3, 1) := by decide +kernel
theorem dX10_even_100 : decode cX10_even 100 = .ok (.iconst 1, 1) := by decide +kernel
theorem dX10_even_101 : decode cX10_even 101 = .ok (.if_icmp .ge 5, 3) := by decide +kernel
theorem dX10_even_104 : decode cX10_even 104 = .ok (.iconst (-1), 1) := by decide +kernel
theorem dX10_even_105 : decode cX10_even 105 = .ok (.ireturn, 1) := by decide +kernel
theorem dX10_even_106 : decode cX10_even 106 = .ok (.aload_n 0, 1) := by decide +kernel
theorem dX10_even_107 : decode cX10_even 107 = .ok (.getfield 26, 3) := by decide +kernel
theorem dX10_even_110 : decode cX10_even 110 = .ok (.getfield 156, 3) := by decide +kernel
theorem dX10_even_113 : decode cX10_even 113 = .ok (.iload_n 2, 1) := by decide +kernel
theorem dX10_even_114 : decode cX10_even 114 = .ok (.iconst 3, 1) := by decide +kernel
theorem dX10_even_115 : decode cX10_even 115 = .ok (.invokevirtual 217, 3) := by decide +kernel
theorem dX10_even_118 : decode cX10_even 118 = .ok (.istore 5, 2) := by decide +kernel
theorem dX10_even_120 : decode cX10_even 120 = .ok (.iload 5, 2) := by decide +kernel
theorem dX10_even_122 : decode cX10_even 122 = .ok (.iload_n 3, 1) := by decide +kernel
theorem dX10_even_123 : decode cX10_even 123 = .ok (.idiv, 1) := by decide +kernel
theorem dX10_even_124 : decode cX10_even 124 = .ok (.iload 4, 2) := by decide +kernel
theorem dX10_even_126 : decode cX10_even 126 = .ok (.iload 5, 2) := by decide +kernel
theorem dX10_even_128 : decode cX10_even 128 = .ok (.iload_n 3, 1) := by decide +kernel
theorem dX10_even_129 : decode cX10_even 129 = .ok (.irem, 1) := by decide +kernel
theorem dX10_even_130 : decode cX10_even 130 = .ok (.if_icmp .ge 7, 3) := by decide +kernel
theorem dX10_even_133 : decode cX10_even 133 = .ok (.iconst 1, 1) := by decide +kernel
theorem dX10_even_134 : decode cX10_even 134 = .ok (.goto 4, 3) := by decide +kernel
theorem dX10_even_137 : decode cX10_even 137 = .ok (.iconst 0, 1) := by decide +kernel
theorem dX10_even_138 : decode cX10_even 138 = .ok (.iadd, 1) := by decide +kernel
theorem dX10_even_139 : decode cX10_even 139 = .ok (.istore 6, 2) := by decide +kernel
theorem dX10_even_141 : decode cX10_even 141 = .ok (.iload 6, 2) := by decide +kernel
theorem dX10_even_143 : decode cX10_even 143 = .ok (.aload_n 0, 1) := by decide +kernel
theorem dX10_even_144 : decode cX10_even 144 = .ok (.getfield 26, 3) := by decide +kernel
theorem dX10_even_147 : decode cX10_even 147 = .ok (.getfield 81, 3) := by decide +kernel
theorem dX10_even_150 : decode cX10_even 150 = .ok (.getfield 207, 3) := by decide +kernel
theorem dX10_even_153 : decode cX10_even 153 = .ok (.iconst 1, 1) := by decide +kernel
theorem dX10_even_154 : decode cX10_even 154 = .ok (.iaload, 1) := by decide +kernel
theorem dX10_even_155 : decode cX10_even 155 = .ok (.invokestatic 341, 3) := by decide +kernel
theorem dX10_even_158 : decode cX10_even 158 = .ok (.ireturn, 1) := by decide +kernel
theorem dX10_future_0 : decode cX10_future 0 = .ok (.aload_n 0, 1) := by decide +kernel
theorem dX10_future_1 : decode cX10_future 1 = .ok (.getfield 26, 3) := by decide +kernel
theorem dX10_future_4 : decode cX10_future 4 = .ok (.iload_n 1, 1) := by decide +kernel
theorem dX10_future_5 : decode cX10_future 5 = .ok (.iload_n 2, 1) := by decide +kernel
theorem dX10_future_6 : decode cX10_future 6 = .ok (.invokevirtual 87, 3) := by decide +kernel
theorem dX10_future_9 : decode cX10_future 9 = .ok (.ifCond .eq 15, 3) := by decide +kernel
theorem dX10_future_12 : decode cX10_future 12 = .ok (.aload_n 0, 1) := by decide +kernel
theorem dX10_future_13 : decode cX10_future 13 = .ok (.getfield 26, 3) := by decide +kernel
theorem dX10_future_16 : decode cX10_future 16 = .ok (.iload_n 1, 1) := by decide +kernel
theorem dX10_future_17 : decode cX10_future 17 = .ok (.iload_n 2, 1) := by decide +kernel
theorem dX10_future_18 : decode cX10_future 18 = .ok (.invokevirtual 344, 3) := by decide +kernel
theorem dX10_future_21 : decode cX10_future 21 = .ok (.goto 4, 3) := by decide +kernel
theorem dX10_future_24 : decode cX10_future 24 = .ok (.iconst (-1), 1) := by decide +kernel
theorem dX10_future_25 : decode cX10_future 25 = .ok (.ireturn, 1) := by decide +kernel
theorem dX10_likely_0 : decode cX10_likely 0 = .ok (.aload_n 0, 1) := by decide +kernel
theorem dX10_likely_1 : decode cX10_likely 1 = .ok (.getfield 26, 3) := by decide +kernel
theorem dX10_likely_4 : decode cX10_likely 4 = .ok (.iload_n 1, 1) := by decide +kernel
theorem dX10_likely_5 : decode cX10_likely 5 = .ok (.invokevirtual 191, 3) := by decide +kernel
theorem dX10_likely_8 : decode cX10_likely 8 = .ok (.ifCond .ne 7, 3) := by decide +kernel
theorem dX10_likely_11 : decode cX10_likely 11 = .ok (.ldc2_w 171, 3) := by decide +kernel
theorem dX10_likely_14 : decode cX10_likely 14 = .ok (.lreturn, 1) := by decide +kernel
theorem dX10_likely_15 : decode cX10_likely 15 = .ok (.aload_n 0, 1) := by decide +kernel
theorem dX10_likely_16 : decode cX10_likely 16 = .ok (.getfield 26, 3) := by decide +kernel
theorem dX10_likely_19 : decode cX10_likely 19 = .ok (.getfield 106, 3) := by decide +kernel
theorem dX10_likely_22 : decode cX10_likely 22 = .ok (.astore_n 2, 1) := by decide +kernel
theorem dX10_likely_23 : decode cX10_likely 23 = .ok (.dconst 0, 1) := by decide +kernel
theorem dX10_likely_24 : decode cX10_likely 24 = .ok (.dstore_n 3, 1) := by decide +kernel
theorem dX10_likely_25 : decode cX10_likely 25 = .ok (.iconst 0, 1) := by decide +kernel
theorem dX10_likely_26 : decode cX10_likely 26 = .ok (.istore 5, 2) := by decide +kernel
theorem dX10_likely_28 : decode cX10_likely 28 = .ok (.iload 5, 2) := by decide +kernel
theorem dX10_likely_30 : decode cX10_likely 30 = .ok (.aload_n 2, 1) := by decide +kernel
theorem dX10_likely_31 : decode cX10_likely 31 = .ok (.getfield 139, 3) := by decide +kernel
theorem dX10_likely_34 : decode cX10_likely 34 = .ok (.if_icmp .ge 66, 3) := by decide +kernel
theorem dX10_likely_37 : decode cX10_likely 37 = .ok (.aload_n 2, 1) := by decide +kernel
theorem dX10_likely_38 : decode cX10_likely 38 = .ok (.iload 5, 2) := by decide +kernel
theorem dX10_likely_40 : decode cX10_likely 40 = .ok (.invokevirtual 115, 3) := by decide +kernel
theorem dX10_likely_43 : decode cX10_likely 43 = .ok (.ifCond .eq 51, 3) := by decide +kernel
theorem dX10_likely_46 : decode cX10_likely 46 = .ok (.aload_n 2, 1) := by decide +kernel
theorem dX10_likely_47 : decode cX10_likely 47 = .ok (.getfield 243, 3) := by decide +kernel
theorem dX10_likely_50 : decode cX10_likely 50 = .ok (.iload 5, 2) := by decide +kernel
theorem dX10_likely_52 : decode cX10_likely 52 = .ok (.iaload, 1) := by decide +kernel
theorem dX10_likely_53 : decode cX10_likely 53 = .ok (.iload_n 1, 1) := by decide +kernel
theorem dX10_likely_54 : decode cX10_likely 54 = .ok (.if_icmp .ne 40, 3) := by decide +kernel
theorem dX10_likely_57 : decode cX10_likely 57 = .ok (.aload_n 2, 1) := by decide +kernel
theorem dX10_likely_58 : decode cX10_likely 58 = .ok (.aload_n 2, 1) := by decide +kernel
theorem dX10_likely_59 : decode cX10_likely 59 = .ok (.getfield 136, 3) := by decide +kernel
theorem dX10_likely_62 : decode cX10_likely 62 = .ok (.iload 5, 2) := by decide +kernel
theorem dX10_likely_64 : decode cX10_likely 64 = .ok (.iaload, 1) := by decide +kernel
theorem dX10_likely_65 : decode cX10_likely 65 = .ok (.invokevirtual 264, 3) := by decide +kernel
theorem dX10_likely_68 : decode cX10_likely 68 = .ok (.dstore 6, 2) := by decide +kernel
theorem dX10_likely_70 : decode cX10_likely 70 = .ok (.dload_n 3, 1) := by decide +kernel
theorem dX10_likely_71 : decode cX10_likely 71 = .ok (.aload_n 2, 1) := by decide +kernel
theorem dX10_likely_72 : decode cX10_likely 72 = .ok (.iload 5, 2) := by decide +kernel
theorem dX10_likely_74 : decode cX10_likely 74 = .ok (.invokevirtual 118, 3) := by decide +kernel
theorem dX10_likely_77 : decode cX10_likely 77 = .ok (.i2d, 1) := by decide +kernel
theorem dX10_likely_78 : decode cX10_likely 78 = .ok (.dload 6, 2) := by decide +kernel
theorem dX10_likely_80 : decode cX10_likely 80 = .ok (.dconst 0, 1) := by decide +kernel
theorem dX10_likely_81 : decode cX10_likely 81 = .ok (.dcmp .g, 1) := by decide +kernel
theorem dX10_likely_82 : decode cX10_likely 82 = .ok (.ifCond .ge 7, 3) := by decide +kernel
theorem dX10_likely_85 : decode cX10_likely 85 = .ok (.dconst 1, 1) := by decide +kernel
theorem dX10_likely_86 : decode cX10_likely 86 = .ok (.goto 5, 3) := by decide +kernel
theorem dX10_likely_89 : decode cX10_likely 89 = .ok (.dload 6, 2) := by decide +kernel
theorem dX10_likely_91 : decode cX10_likely 91 = .ok (.dmul, 1) := by decide +kernel
theorem dX10_likely_92 : decode cX10_likely 92 = .ok (.dadd, 1) := by decide +kernel
theorem dX10_likely_93 : decode cX10_likely 93 = .ok (.dstore_n 3, 1) := by decide +kernel
theorem dX10_likely_94 : decode cX10_likely 94 = .ok (.iinc 5 1, 3) := by decide +kernel
theorem dX10_likely_97 : decode cX10_likely 97 = .ok (.goto (-69), 3) := by decide +kernel
theorem dX10_likely_100 : decode cX10_likely 100 = .ok (.dload_n 3, 1) := by decide +kernel
theorem dX10_likely_101 : decode cX10_likely 101 = .ok (.invokestatic 177, 3) := by decide +kernel
theorem dX10_likely_104 : decode cX10_likely 104 = .ok (.lreturn, 1) := by decide +kernel
theorem dX10_root_0 : decode cX10_root 0 = .ok (.aload_n 0, 1) := by decide +kernel
theorem dX10_root_1 : decode cX10_root 1 = .ok (.getfield 26, 3) := by decide +kernel
theorem dX10_root_4 : decode cX10_root 4 = .ok (.getfield 106, 3) := by decide +kernel
theorem dX10_root_7 : decode cX10_root 7 = .ok (.iload_n 1, 1) := by decide +kernel
theorem dX10_root_8 : decode cX10_root 8 = .ok (.invokevirtual 110, 3) := by decide +kernel
theorem dX10_root_11 : decode cX10_root 11 = .ok (.ifCond .eq 12, 3) := by decide +kernel
theorem dX10_root_14 : decode cX10_root 14 = .ok (.iload_n 2, 1) := by decide +kernel
theorem dX10_root_15 : decode cX10_root 15 = .ok (.ifCond .lt 8, 3) := by decide +kernel
theorem dX10_root_18 : decode cX10_root 18 = .ok (.iload_n 2, 1) := by decide +kernel
theorem dX10_root_19 : decode cX10_root 19 = .ok (.iconst 1, 1) := by decide +kernel
theorem dX10_root_20 : decode cX10_root 20 = .ok (.if_icmp .le 5, 3) := by decide +kernel
theorem dX10_root_23 : decode cX10_root 23 = .ok (.iconst (-1), 1) := by decide +kernel
theorem dX10_root_24 : decode cX10_root 24 = .ok (.ireturn, 1) := by decide +kernel
theorem dX10_root_25 : decode cX10_root 25 = .ok (.iload_n 1, 1) := by decide +kernel
theorem dX10_root_26 : decode cX10_root 26 = .ok (.istore_n 3, 1) := by decide +kernel
theorem dX10_root_27 : decode cX10_root 27 = .ok (.iconst 0, 1) := by decide +kernel
theorem dX10_root_28 : decode cX10_root 28 = .ok (.istore 4, 2) := by decide +kernel
theorem dX10_root_30 : decode cX10_root 30 = .ok (.iconst 0, 1) := by decide +kernel
theorem dX10_root_31 : decode cX10_root 31 = .ok (.istore 5, 2) := by decide +kernel
theorem dX10_root_33 : decode cX10_root 33 = .ok (.iload 5, 2) := by decide +kernel
theorem dX10_root_35 : decode cX10_root 35 = .ok (.bipush 60, 2) := by decide +kernel
theorem dX10_root_37 : decode cX10_root 37 = .ok (.if_icmp .ge 50, 3) := by decide +kernel
theorem dX10_root_40 : decode cX10_root 40 = .ok (.aload_n 0, 1) := by decide +kernel
theorem dX10_root_41 : decode cX10_root 41 = .ok (.getfield 26, 3) := by decide +kernel
theorem dX10_root_44 : decode cX10_root 44 = .ok (.getfield 106, 3) := by decide +kernel
theorem dX10_root_47 : decode cX10_root 47 = .ok (.aload_n 0, 1) := by decide +kernel
theorem dX10_root_48 : decode cX10_root 48 = .ok (.getfield 26, 3) := by decide +kernel
theorem dX10_root_51 : decode cX10_root 51 = .ok (.getfield 106, 3) := by decide +kernel
theorem dX10_root_54 : decode cX10_root 54 = .ok (.getfield 347, 3) := by decide +kernel
theorem dX10_root_57 : decode cX10_root 57 = .ok (.iload_n 3, 1) := by decide +kernel
theorem dX10_root_58 : decode cX10_root 58 = .ok (.iaload, 1) := by decide +kernel
theorem dX10_root_59 : decode cX10_root 59 = .ok (.invokevirtual 110, 3) := by decide +kernel
theorem dX10_root_62 : decode cX10_root 62 = .ok (.ifCond .eq 25, 3) := by decide +kernel
theorem dX10_root_65 : decode cX10_root 65 = .ok (.aload_n 0, 1) := by decide +kernel
theorem dX10_root_66 : decode cX10_root 66 = .ok (.getfield 26, 3) := by decide +kernel
theorem dX10_root_69 : decode cX10_root 69 = .ok (.getfield 106, 3) := by decide +kernel
theorem dX10_root_72 : decode cX10_root 72 = .ok (.getfield 347, 3) := by decide +kernel
theorem dX10_root_75 : decode cX10_root 75 = .ok (.iload_n 3, 1) := by decide +kernel
theorem dX10_root_76 : decode cX10_root 76 = .ok (.iaload, 1) := by decide +kernel
theorem dX10_root_77 : decode cX10_root 77 = .ok (.istore_n 3, 1) := by decide +kernel
theorem dX10_root_78 : decode cX10_root 78 = .ok (.iinc 4 1, 3) := by decide +kernel
theorem dX10_root_81 : decode cX10_root 81 = .ok (.iinc 5 1, 3) := by decide +kernel
theorem dX10_root_84 : decode cX10_root 84 = .ok (.goto (-51), 3) := by decide +kernel
theorem dX10_root_87 : decode cX10_root 87 = .ok (.iload_n 2, 1) := by decide +kernel
theorem dX10_root_88 : decode cX10_root 88 = .ok (.ifCond .ne 7, 3) := by decide +kernel
theorem dX10_root_91 : decode cX10_root 91 = .ok (.iload_n 3, 1) := by decide +kernel
theorem dX10_root_92 : decode cX10_root 92 = .ok (.goto 5, 3) := by decide +kernel
theorem dX10_root_95 : decode cX10_root 95 = .ok (.iload 4, 2) := by decide +kernel
theorem dX10_root_97 : decode cX10_root 97 = .ok (.ireturn, 1) := by decide +kernel
theorem dX10_median_0 : decode cX10_median 0 = .ok (.aload_n 0, 1) := by decide +kernel
theorem dX10_median_1 : decode cX10_median 1 = .ok (.getfield 26, 3) := by decide +kernel
theorem dX10_median_4 : decode cX10_median 4 = .ok (.iload_n 1, 1) := by decide +kernel
theorem dX10_median_5 : decode cX10_median 5 = .ok (.invokevirtual 191, 3) := by decide +kernel
theorem dX10_median_8 : decode cX10_median 8 = .ok (.ifCond .ne 5, 3) := by decide +kernel
theorem dX10_median_11 : decode cX10_median 11 = .ok (.iconst (-1), 1) := by decide +kernel
theorem dX10_median_12 : decode cX10_median 12 = .ok (.ireturn, 1) := by decide +kernel
theorem dX10_median_13 : decode cX10_median 13 = .ok (.iconst 0, 1) := by decide +kernel
theorem dX10_median_14 : decode cX10_median 14 = .ok (.istore_n 2, 1) := by decide +kernel
theorem dX10_median_15 : decode cX10_median 15 = .ok (.iconst 0, 1) := by decide +kernel
theorem dX10_median_16 : decode cX10_median 16 = .ok (.istore_n 3, 1) := by decide +kernel
theorem dX10_median_17 : decode cX10_median 17 = .ok (.iload_n 3, 1) := by decide +kernel
theorem dX10_median_18 : decode cX10_median 18 = .ok (.aload_n 0, 1) := by decide +kernel
theorem dX10_median_19 : decode cX10_median 19 = .ok (.getfield 26, 3) := by decide +kernel
theorem dX10_median_22 : decode cX10_median 22 = .ok (.getfield 81, 3) := by decide +kernel
theorem dX10_median_25 : decode cX10_median 25 = .ok (.getfield 281, 3) := by decide +kernel
theorem dX10_median_28 : decode cX10_median 28 = .ok (.if_icmp .ge 28, 3) := by decide +kernel
theorem dX10_median_31 : decode cX10_median 31 = .ok (.iload_n 2, 1) := by decide +kernel
theorem dX10_median_32 : decode cX10_median 32 = .ok (.aload_n 0, 1) := by decide +kernel
theorem dX10_median_33 : decode cX10_median 33 = .ok (.getfield 26, 3) := by decide +kernel
theorem dX10_median_36 : decode cX10_median 36 = .ok (.getfield 156, 3) := by decide +kernel
theorem dX10_median_39 : decode cX10_median 39 = .ok (.getfield 232, 3) := by decide +kernel
theorem dX10_median_42 : decode cX10_median 42 = .ok (.iload_n 3, 1) := by decide +kernel
theorem dX10_median_43 : decode cX10_median 43 = .ok (.iload_n 1, 1) := by decide +kernel
theorem dX10_median_44 : decode cX10_median 44 = .ok (.invokestatic 160, 3) := by decide +kernel
theorem dX10_median_47 : decode cX10_median 47 = .ok (.iaload, 1) := by decide +kernel
theorem dX10_median_48 : decode cX10_median 48 = .ok (.iadd, 1) := by decide +kernel
theorem dX10_median_49 : decode cX10_median 49 = .ok (.istore_n 2, 1) := by decide +kernel
theorem dX10_median_50 : decode cX10_median 50 = .ok (.iinc 3 1, 3) := by decide +kernel
theorem dX10_median_53 : decode cX10_median 53 = .ok (.goto (-36), 3) := by decide +kernel
theorem dX10_median_56 : decode cX10_median 56 = .ok (.iconst 0, 1) := by decide +kernel
theorem dX10_median_57 : decode cX10_median 57 = .ok (.istore_n 3, 1) := by decide +kernel
theorem dX10_median_58 : decode cX10_median 58 = .ok (.iload_n 3, 1) := by decide +kernel
theorem dX10_median_59 : decode cX10_median 59 = .ok (.aload_n 0, 1) := by decide +kernel
theorem dX10_median_60 : decode cX10_median 60 = .ok (.getfield 26, 3) := by decide +kernel
theorem dX10_median_63 : decode cX10_median 63 = .ok (.getfield 81, 3) := by decide +kernel
theorem dX10_median_66 : decode cX10_median 66 = .ok (.getfield 281, 3) := by decide +kernel
theorem dX10_median_69 : decode cX10_median 69 = .ok (.if_icmp .ge 61, 3) := by decide +kernel
theorem dX10_median_72 : decode cX10_median 72 = .ok (.iload_n 3, 1) := by decide +kernel
theorem dX10_median_73 : decode cX10_median 73 = .ok (.iload_n 1, 1) := by decide +kernel
theorem dX10_median_74 : decode cX10_median 74 = .ok (.invokestatic 160, 3) := by decide +kernel
theorem dX10_median_77 : decode cX10_median 77 = .ok (.istore 4, 2) := by decide +kernel
theorem dX10_median_79 : decode cX10_median 79 = .ok (.aload_n 0, 1) := by decide +kernel
theorem dX10_median_80 : decode cX10_median 80 = .ok (.getfield 26, 3) := by decide +kernel
theorem dX10_median_83 : decode cX10_median 83 = .ok (.getfield 156, 3) := by decide +kernel
theorem dX10_median_86 : decode cX10_median 86 = .ok (.iload 4, 2) := by decide +kernel
theorem dX10_median_88 : decode cX10_median 88 = .ok (.invokevirtual 163, 3) := by decide +kernel
theorem dX10_median_91 : decode cX10_median 91 = .ok (.ifCond .eq 33, 3) := by decide +kernel
theorem dX10_median_94 : decode cX10_median 94 = .ok (.aload_n 0, 1) := by decide +kernel
theorem dX10_median_95 : decode cX10_median 95 = .ok (.getfield 26, 3) := by decide +kernel
theorem dX10_median_98 : decode cX10_median 98 = .ok (.iload_n 3, 1) := by decide +kernel
theorem dX10_median_99 : decode cX10_median 99 = .ok (.iload_n 1, 1) := by decide +kernel
theorem dX10_median_100 : decode cX10_median 100 = .ok (.invokevirtual 350, 3) := by decide +kernel
theorem dX10_median_103 : decode cX10_median 103 = .ok (.iload_n 2, 1) := by decide +kernel
theorem dX10_median_104 : decode cX10_median 104 = .ok (.iconst 1, 1) := by decide +kernel
theorem dX10_median_105 : decode cX10_median 105 = .ok (.isub, 1) := by decide +kernel
theorem dX10_median_106 : decode cX10_median 106 = .ok (.iconst 2, 1) := by decide +kernel
theorem dX10_median_107 : decode cX10_median 107 = .ok (.idiv, 1) := by decide +kernel
theorem dX10_median_108 : decode cX10_median 108 = .ok (.if_icmp .ne 16, 3) := by decide +kernel
theorem dX10_median_111 : decode cX10_median 111 = .ok (.aload_n 0, 1) := by decide +kernel
theorem dX10_median_112 : decode cX10_median 112 = .ok (.getfield 26, 3) := by decide +kernel
theorem dX10_median_115 : decode cX10_median 115 = .ok (.getfield 81, 3) := by decide +kernel
theorem dX10_median_118 : decode cX10_median 118 = .ok (.iload 4, 2) := by decide +kernel
theorem dX10_median_120 : decode cX10_median 120 = .ok (.invokevirtual 235, 3) := by decide +kernel
theorem dX10_median_123 : decode cX10_median 123 = .ok (.ireturn, 1) := by decide +kernel
theorem dX10_median_124 : decode cX10_median 124 = .ok (.iinc 3 1, 3) := by decide +kernel
theorem dX10_median_127 : decode cX10_median 127 = .ok (.goto (-69), 3) := by decide +kernel
theorem dX10_median_130 : decode cX10_median 130 = .ok (.bipush (-2), 2) := by decide +kernel
theorem dX10_median_132 : decode cX10_median 132 = .ok (.ireturn, 1) := by decide +kernel
theorem dX10_rush_0 : decode cX10_rush 0 = .ok (.aload_n 0, 1) := by decide +kernel
theorem dX10_rush_1 : decode cX10_rush 1 = .ok (.getfield 26, 3) := by decide +kernel
theorem dX10_rush_4 : decode cX10_rush 4 = .ok (.iload_n 1, 1) := by decide +kernel
theorem dX10_rush_5 : decode cX10_rush 5 = .ok (.iload_n 2, 1) := by decide +kernel
theorem dX10_rush_6 : decode cX10_rush 6 = .ok (.invokevirtual 87, 3) := by decide +kernel
theorem dX10_rush_9 : decode cX10_rush 9 = .ok (.ifCond .eq 10, 3) := by decide +kernel
theorem dX10_rush_12 : decode cX10_rush 12 = .ok (.iload_n 3, 1) := by decide +kernel
theorem dX10_rush_13 : decode cX10_rush 13 = .ok (.invokestatic 91, 3) := by decide +kernel
theorem dX10_rush_16 : decode cX10_rush 16 = .ok (.ifCond .ne 5, 3) := by decide +kernel
theorem dX10_rush_19 : decode cX10_rush 19 = .ok (.iconst (-1), 1) := by decide +kernel
theorem dX10_rush_20 : decode cX10_rush 20 = .ok (.ireturn, 1) := by decide +kernel
theorem dX10_rush_21 : decode cX10_rush 21 = .ok (.aload_n 0, 1) := by decide +kernel
theorem dX10_rush_22 : decode cX10_rush 22 = .ok (.getfield 26, 3) := by decide +kernel
theorem dX10_rush_25 : decode cX10_rush 25 = .ok (.getfield 156, 3) := by decide +kernel
theorem dX10_rush_28 : decode cX10_rush 28 = .ok (.iload_n 2, 1) := by decide +kernel
theorem dX10_rush_29 : decode cX10_rush 29 = .ok (.iconst 3, 1) := by decide +kernel
theorem dX10_rush_30 : decode cX10_rush 30 = .ok (.invokevirtual 217, 3) := by decide +kernel
theorem dX10_rush_33 : decode cX10_rush 33 = .ok (.istore 4, 2) := by decide +kernel
theorem dX10_rush_35 : decode cX10_rush 35 = .ok (.aload_n 0, 1) := by decide +kernel
theorem dX10_rush_36 : decode cX10_rush 36 = .ok (.getfield 26, 3) := by decide +kernel
theorem dX10_rush_39 : decode cX10_rush 39 = .ok (.getfield 106, 3) := by decide +kernel
theorem dX10_rush_42 : decode cX10_rush 42 = .ok (.getfield 139, 3) := by decide +kernel
theorem dX10_rush_45 : decode cX10_rush 45 = .ok (.istore 5, 2) := by decide +kernel
theorem dX10_rush_47 : decode cX10_rush 47 = .ok (.iconst 0, 1) := by decide +kernel
theorem dX10_rush_48 : decode cX10_rush 48 = .ok (.istore 6, 2) := by decide +kernel
theorem dX10_rush_50 : decode cX10_rush 50 = .ok (.iconst 0, 1) := by decide +kernel
theorem dX10_rush_51 : decode cX10_rush 51 = .ok (.istore 7, 2) := by decide +kernel
theorem dX10_rush_53 : decode cX10_rush 53 = .ok (.iload 7, 2) := by decide +kernel
theorem dX10_rush_55 : decode cX10_rush 55 = .ok (.iload_n 1, 1) := by decide +kernel
theorem dX10_rush_56 : decode cX10_rush 56 = .ok (.if_icmp .gt 68, 3) := by decide +kernel
theorem dX10_rush_59 : decode cX10_rush 59 = .ok (.iconst 0, 1) := by decide +kernel
theorem dX10_rush_60 : decode cX10_rush 60 = .ok (.aload_n 0, 1) := by decide +kernel
theorem dX10_rush_61 : decode cX10_rush 61 = .ok (.getfield 26, 3) := by decide +kernel
theorem dX10_rush_64 : decode cX10_rush 64 = .ok (.iload 7, 2) := by decide +kernel
theorem dX10_rush_66 : decode cX10_rush 66 = .ok (.iload_n 2, 1) := by decide +kernel
theorem dX10_rush_67 : decode cX10_rush 67 = .ok (.iload_n 3, 1) := by decide +kernel
theorem dX10_rush_68 : decode cX10_rush 68 = .ok (.iload 4, 2) := by decide +kernel
theorem dX10_rush_70 : decode cX10_rush 70 = .ok (.iload 5, 2) := by decide +kernel
theorem dX10_rush_72 : decode cX10_rush 72 = .ok (.invokevirtual 353, 3) := by decide +kernel
theorem dX10_rush_75 : decode cX10_rush 75 = .ok (.invokestatic 326, 3) := by decide +kernel
theorem dX10_rush_78 : decode cX10_rush 78 = .ok (.istore 6, 2) := by decide +kernel
theorem dX10_rush_80 : decode cX10_rush 80 = .ok (.iload 6, 2) := by decide +kernel
theorem dX10_rush_82 : decode cX10_rush 82 = .ok (.ifCond .le 36, 3) := by decide +kernel
theorem dX10_rush_85 : decode cX10_rush 85 = .ok (.iinc 5 1, 3) := by decide +kernel
theorem dX10_rush_88 : decode cX10_rush 88 = .ok (.iload 4, 2) := by decide +kernel
theorem dX10_rush_90 : decode cX10_rush 90 = .ok (.aload_n 0, 1) := by decide +kernel
theorem dX10_rush_91 : decode cX10_rush 91 = .ok (.getfield 26, 3) := by decide +kernel
theorem dX10_rush_94 : decode cX10_rush 94 = .ok (.getfield 156, 3) := by decide +kernel
theorem dX10_rush_97 : decode cX10_rush 97 = .ok (.iload 7, 2) := by decide +kernel
theorem dX10_rush_99 : decode cX10_rush 99 = .ok (.iload_n 2, 1) := by decide +kernel
theorem dX10_rush_100 : decode cX10_rush 100 = .ok (.invokestatic 160, 3) := by decide +kernel
theorem dX10_rush_103 : decode cX10_rush 103 = .ok (.invokevirtual 163, 3) := by decide +kernel
theorem dX10_rush_106 : decode cX10_rush 106 = .ok (.ifCond .eq 7, 3) := by decide +kernel
theorem dX10_rush_109 : decode cX10_rush 109 = .ok (.iconst 0, 1) := by decide +kernel
theorem dX10_rush_110 : decode cX10_rush 110 = .ok (.goto 5, 3) := by decide +kernel
theorem dX10_rush_113 : decode cX10_rush 113 = .ok (.iload 6, 2) := by decide +kernel
theorem dX10_rush_115 : decode cX10_rush 115 = .ok (.isub, 1) := by decide +kernel
theorem dX10_rush_116 : decode cX10_rush 116 = .ok (.istore 4, 2) := by decide +kernel
theorem dX10_rush_118 : decode cX10_rush 118 = .ok (.iinc 7 1, 3) := by decide +kernel
theorem dX10_rush_121 : decode cX10_rush 121 = .ok (.goto (-68), 3) := by decide +kernel
theorem dX10_rush_124 : decode cX10_rush 124 = .ok (.iload 6, 2) := by decide +kernel
theorem dX10_rush_126 : decode cX10_rush 126 = .ok (.ireturn, 1) := by decide +kernel
theorem dX10_stood_0 : decode cX10_stood 0 = .ok (.aload_n 0, 1) := by decide +kernel
theorem dX10_stood_1 : decode cX10_stood 1 = .ok (.getfield 26, 3) := by decide +kernel
theorem dX10_stood_4 : decode cX10_stood 4 = .ok (.iload_n 1, 1) := by decide +kernel
theorem dX10_stood_5 : decode cX10_stood 5 = .ok (.invokevirtual 191, 3) := by decide +kernel
theorem dX10_stood_8 : decode cX10_stood 8 = .ok (.ifCond .eq 18, 3) := by decide +kernel
theorem dX10_stood_11 : decode cX10_stood 11 = .ok (.iload_n 2, 1) := by decide +kernel
theorem dX10_stood_12 : decode cX10_stood 12 = .ok (.ifCond .lt 14, 3) := by decide +kernel
theorem dX10_stood_15 : decode cX10_stood 15 = .ok (.iload_n 2, 1) := by decide +kernel
theorem dX10_stood_16 : decode cX10_stood 16 = .ok (.aload_n 0, 1) := by decide +kernel
theorem dX10_stood_17 : decode cX10_stood 17 = .ok (.getfield 26, 3) := by decide +kernel
theorem dX10_stood_20 : decode cX10_stood 20 = .ok (.getfield 142, 3) := by decide +kernel
theorem dX10_stood_23 : decode cX10_stood 23 = .ok (.if_icmp .lt 5, 3) := by decide +kernel
theorem dX10_stood_26 : decode cX10_stood 26 = .ok (.iconst (-1), 1) := by decide +kernel
theorem dX10_stood_27 : decode cX10_stood 27 = .ok (.ireturn, 1) := by decide +kernel
theorem dX10_stood_28 : decode cX10_stood 28 = .ok (.aload_n 0, 1) := by decide +kernel
theorem dX10_stood_29 : decode cX10_stood 29 = .ok (.getfield 26, 3) := by decide +kernel
theorem dX10_stood_32 : decode cX10_stood 32 = .ok (.getfield 106, 3) := by decide +kernel
theorem dX10_stood_35 : decode cX10_stood 35 = .ok (.astore_n 3, 1) := by decide +kernel
theorem dX10_stood_36 : decode cX10_stood 36 = .ok (.iconst 0, 1) := by decide +kernel
theorem dX10_stood_37 : decode cX10_stood 37 = .ok (.istore 4, 2) := by decide +kernel
theorem dX10_stood_39 : decode cX10_stood 39 = .ok (.iconst 0, 1) := by decide +kernel
theorem dX10_stood_40 : decode cX10_stood 40 = .ok (.istore 5, 2) := by decide +kernel
theorem dX10_stood_42 : decode cX10_stood 42 = .ok (.iload 5, 2) := by decide +kernel
theorem dX10_stood_44 : decode cX10_stood 44 = .ok (.aload_n 3, 1) := by decide +kernel
theorem dX10_stood_45 : decode cX10_stood 45 = .ok (.getfield 139, 3) := by decide +kernel
theorem dX10_stood_48 : decode cX10_stood 48 = .ok (.if_icmp .ge 42, 3) := by decide +kernel
theorem dX10_stood_51 : decode cX10_stood 51 = .ok (.aload_n 3, 1) := by decide +kernel
theorem dX10_stood_52 : decode cX10_stood 52 = .ok (.getfield 243, 3) := by decide +kernel
theorem dX10_stood_55 : decode cX10_stood 55 = .ok (.iload 5, 2) := by decide +kernel
theorem dX10_stood_57 : decode cX10_stood 57 = .ok (.iaload, 1) := by decide +kernel
theorem dX10_stood_58 : decode cX10_stood 58 = .ok (.iload_n 1, 1) := by decide +kernel
theorem dX10_stood_59 : decode cX10_stood 59 = .ok (.if_icmp .ne 25, 3) := by decide +kernel
theorem dX10_stood_62 : decode cX10_stood 62 = .ok (.aload_n 3, 1) := by decide +kernel
theorem dX10_stood_63 : decode cX10_stood 63 = .ok (.iload 5, 2) := by decide +kernel
theorem dX10_stood_65 : decode cX10_stood 65 = .ok (.iload_n 2, 1) := by decide +kernel
theorem dX10_stood_66 : decode cX10_stood 66 = .ok (.invokevirtual 356, 3) := by decide +kernel
theorem dX10_stood_69 : decode cX10_stood 69 = .ok (.ifCond .eq 15, 3) := by decide +kernel
theorem dX10_stood_72 : decode cX10_stood 72 = .ok (.iload 4, 2) := by decide +kernel
theorem dX10_stood_74 : decode cX10_stood 74 = .ok (.aload_n 3, 1) := by decide +kernel
theorem dX10_stood_75 : decode cX10_stood 75 = .ok (.getfield 246, 3) := by decide +kernel
theorem dX10_stood_78 : decode cX10_stood 78 = .ok (.iload 5, 2) := by decide +kernel
theorem dX10_stood_80 : decode cX10_stood 80 = .ok (.iaload, 1) := by decide +kernel
theorem dX10_stood_81 : decode cX10_stood 81 = .ok (.iadd, 1) := by decide +kernel
theorem dX10_stood_82 : decode cX10_stood 82 = .ok (.istore 4, 2) := by decide +kernel
theorem dX10_stood_84 : decode cX10_stood 84 = .ok (.iinc 5 1, 3) := by decide +kernel
theorem dX10_stood_87 : decode cX10_stood 87 = .ok (.goto (-45), 3) := by decide +kernel
theorem dX10_stood_90 : decode cX10_stood 90 = .ok (.iload 4, 2) := by decide +kernel
theorem dX10_stood_92 : decode cX10_stood 92 = .ok (.ireturn, 1) := by decide +kernel
theorem dX10_owing_0 : decode cX10_owing 0 = .ok (.aload_n 0, 1) := by decide +kernel
theorem dX10_owing_1 : decode cX10_owing 1 = .ok (.getfield 26, 3) := by decide +kernel
theorem dX10_owing_4 : decode cX10_owing 4 = .ok (.iload_n 1, 1) := by decide +kernel
theorem dX10_owing_5 : decode cX10_owing 5 = .ok (.invokevirtual 133, 3) := by decide +kernel
theorem dX10_owing_8 : decode cX10_owing 8 = .ok (.ifCond .ne 5, 3) := by decide +kernel
theorem dX10_owing_11 : decode cX10_owing 11 = .ok (.iconst (-1), 1) := by decide +kernel
theorem dX10_owing_12 : decode cX10_owing 12 = .ok (.ireturn, 1) := by decide +kernel
theorem dX10_owing_13 : decode cX10_owing 13 = .ok (.iconst 0, 1) := by decide +kernel
theorem dX10_owing_14 : decode cX10_owing 14 = .ok (.istore_n 2, 1) := by decide +kernel
theorem dX10_owing_15 : decode cX10_owing 15 = .ok (.iconst 0, 1) := by decide +kernel
theorem dX10_owing_16 : decode cX10_owing 16 = .ok (.istore_n 3, 1) := by decide +kernel
theorem dX10_owing_17 : decode cX10_owing 17 = .ok (.iload_n 3, 1) := by decide +kernel
theorem dX10_owing_18 : decode cX10_owing 18 = .ok (.aload_n 0, 1) := by decide +kernel
theorem dX10_owing_19 : decode cX10_owing 19 = .ok (.getfield 26, 3) := by decide +kernel
theorem dX10_owing_22 : decode cX10_owing 22 = .ok (.getfield 106, 3) := by decide +kernel
theorem dX10_owing_25 : decode cX10_owing 25 = .ok (.getfield 139, 3) := by decide +kernel
theorem dX10_owing_28 : decode cX10_owing 28 = .ok (.if_icmp .ge 50, 3) := by decide +kernel
theorem dX10_owing_31 : decode cX10_owing 31 = .ok (.aload_n 0, 1) := by decide +kernel
theorem dX10_owing_32 : decode cX10_owing 32 = .ok (.getfield 26, 3) := by decide +kernel
theorem dX10_owing_35 : decode cX10_owing 35 = .ok (.getfield 106, 3) := by decide +kernel
theorem dX10_owing_38 : decode cX10_owing 38 = .ok (.iload_n 3, 1) := by decide +kernel
theorem dX10_owing_39 : decode cX10_owing 39 = .ok (.invokevirtual 115, 3) := by decide +kernel
theorem dX10_owing_42 : decode cX10_owing 42 = .ok (.ifCond .eq 30, 3) := by decide +kernel
theorem dX10_owing_45 : decode cX10_owing 45 = .ok (.aload_n 0, 1) := by decide +kernel
theorem dX10_owing_46 : decode cX10_owing 46 = .ok (.getfield 26, 3) := by decide +kernel
theorem dX10_owing_49 : decode cX10_owing 49 = .ok (.getfield 106, 3) := by decide +kernel
theorem dX10_owing_52 : decode cX10_owing 52 = .ok (.getfield 136, 3) := by decide +kernel
theorem dX10_owing_55 : decode cX10_owing 55 = .ok (.iload_n 3, 1) := by decide +kernel
theorem dX10_owing_56 : decode cX10_owing 56 = .ok (.iaload, 1) := by decide +kernel
theorem dX10_owing_57 : decode cX10_owing 57 = .ok (.iload_n 1, 1) := by decide +kernel
theorem dX10_owing_58 : decode cX10_owing 58 = .ok (.if_icmp .ne 14, 3) := by decide +kernel
theorem dX10_owing_61 : decode cX10_owing 61 = .ok (.iload_n 2, 1) := by decide +kernel
theorem dX10_owing_62 : decode cX10_owing 62 = .ok (.aload_n 0, 1) := by decide +kernel
theorem dX10_owing_63 : decode cX10_owing 63 = .ok (.getfield 26, 3) := by decide +kernel
theorem dX10_owing_66 : decode cX10_owing 66 = .ok (.iload_n 3, 1) := by decide +kernel
theorem dX10_owing_67 : decode cX10_owing 67 = .ok (.invokevirtual 359, 3) := by decide +kernel
theorem dX10_owing_70 : decode cX10_owing 70 = .ok (.iadd, 1) := by decide +kernel
theorem dX10_owing_71 : decode cX10_owing 71 = .ok (.istore_n 2, 1) := by decide +kernel
theorem dX10_owing_72 : decode cX10_owing 72 = .ok (.iinc 3 1, 3) := by decide +kernel
theorem dX10_owing_75 : decode cX10_owing 75 = .ok (.goto (-58), 3) := by decide +kernel
theorem dX10_owing_78 : decode cX10_owing 78 = .ok (.iload_n 2, 1) := by decide +kernel
theorem dX10_owing_79 : decode cX10_owing 79 = .ok (.ireturn, 1) := by decide +kernel
theorem dX10_holds_0 : decode cX10_holds 0 = .ok (.aload_n 0, 1) := by decide +kernel
theorem dX10_holds_1 : decode cX10_holds 1 = .ok (.getfield 26, 3) := by decide +kernel
theorem dX10_holds_4 : decode cX10_holds 4 = .ok (.iload_n 1, 1) := by decide +kernel
theorem dX10_holds_5 : decode cX10_holds 5 = .ok (.invokevirtual 133, 3) := by decide +kernel
theorem dX10_holds_8 : decode cX10_holds 8 = .ok (.ifCond .ne 5, 3) := by decide +kernel
theorem dX10_holds_11 : decode cX10_holds 11 = .ok (.iconst (-1), 1) := by decide +kernel
theorem dX10_holds_12 : decode cX10_holds 12 = .ok (.ireturn, 1) := by decide +kernel
theorem dX10_holds_13 : decode cX10_holds 13 = .ok (.iload_n 2, 1) := by decide +kernel
theorem dX10_holds_14 : decode cX10_holds 14 = .ok (.tableswitch 85 0 3 #[30, 42, 54, 66], 30) := by decide +kernel
theorem dX10_holds_44 : decode cX10_holds 44 = .ok (.aload_n 0, 1) := by decide +kernel
theorem dX10_holds_45 : decode cX10_holds 45 = .ok (.getfield 26, 3) := by decide +kernel
theorem dX10_holds_48 : decode cX10_holds 48 = .ok (.getfield 106, 3) := by decide +kernel
theorem dX10_holds_51 : decode cX10_holds 51 = .ok (.iload_n 1, 1) := by decide +kernel
theorem dX10_holds_52 : decode cX10_holds 52 = .ok (.invokevirtual 362, 3) := by decide +kernel
theorem dX10_holds_55 : decode cX10_holds 55 = .ok (.ireturn, 1) := by decide +kernel
theorem dX10_holds_56 : decode cX10_holds 56 = .ok (.aload_n 0, 1) := by decide +kernel
theorem dX10_holds_57 : decode cX10_holds 57 = .ok (.getfield 26, 3) := by decide +kernel
theorem dX10_holds_60 : decode cX10_holds 60 = .ok (.getfield 106, 3) := by decide +kernel
theorem dX10_holds_63 : decode cX10_holds 63 = .ok (.iload_n 1, 1) := by decide +kernel
theorem dX10_holds_64 : decode cX10_holds 64 = .ok (.invokevirtual 365, 3) := by decide +kernel
theorem dX10_holds_67 : decode cX10_holds 67 = .ok (.ireturn, 1) := by decide +kernel
theorem dX10_holds_68 : decode cX10_holds 68 = .ok (.aload_n 0, 1) := by decide +kernel
theorem dX10_holds_69 : decode cX10_holds 69 = .ok (.getfield 26, 3) := by decide +kernel
theorem dX10_holds_72 : decode cX10_holds 72 = .ok (.getfield 106, 3) := by decide +kernel
theorem dX10_holds_75 : decode cX10_holds 75 = .ok (.iload_n 1, 1) := by decide +kernel
theorem dX10_holds_76 : decode cX10_holds 76 = .ok (.invokevirtual 368, 3) := by decide +kernel
theorem dX10_holds_79 : decode cX10_holds 79 = .ok (.ireturn, 1) := by decide +kernel
theorem dX10_holds_80 : decode cX10_holds 80 = .ok (.aload_n 0, 1) := by decide +kernel
theorem dX10_holds_81 : decode cX10_holds 81 = .ok (.getfield 26, 3) := by decide +kernel
theorem dX10_holds_84 : decode cX10_holds 84 = .ok (.getfield 106, 3) := by decide +kernel
theorem dX10_holds_87 : decode cX10_holds 87 = .ok (.iload_n 1, 1) := by decide +kernel
theorem dX10_holds_88 : decode cX10_holds 88 = .ok (.aload_n 0, 1) := by decide +kernel
theorem dX10_holds_89 : decode cX10_holds 89 = .ok (.getfield 26, 3) := by decide +kernel
theorem dX10_holds_92 : decode cX10_holds 92 = .ok (.getfield 142, 3) := by decide +kernel
theorem dX10_holds_95 : decode cX10_holds 95 = .ok (.invokevirtual 371, 3) := by decide +kernel
theorem dX10_holds_98 : decode cX10_holds 98 = .ok (.ireturn, 1) := by decide +kernel
theorem dX10_holds_99 : decode cX10_holds 99 = .ok (.iconst (-1), 1) := by decide +kernel
theorem dX10_holds_100 : decode cX10_holds 100 = .ok (.ireturn, 1) := by decide +kernel
theorem dX10_total_0 : decode cX10_total 0 = .ok (.aload_n 0, 1) := by decide +kernel
theorem dX10_total_1 : decode cX10_total 1 = .ok (.getfield 26, 3) := by decide +kernel
theorem dX10_total_4 : decode cX10_total 4 = .ok (.invokevirtual 181, 3) := by decide +kernel
theorem dX10_total_7 : decode cX10_total 7 = .ok (.ifCond .eq 24, 3) := by decide +kernel
theorem dX10_total_10 : decode cX10_total 10 = .ok (.iload_n 1, 1) := by decide +kernel
theorem dX10_total_11 : decode cX10_total 11 = .ok (.ifCond .lt 20, 3) := by decide +kernel
theorem dX10_total_14 : decode cX10_total 14 = .ok (.iload_n 1, 1) := by decide +kernel
theorem dX10_total_15 : decode cX10_total 15 = .ok (.iconst 5, 1) := by decide +kernel
theorem dX10_total_16 : decode cX10_total 16 = .ok (.if_icmp .ge 15, 3) := by decide +kernel
theorem dX10_total_19 : decode cX10_total 19 = .ok (.aload_n 0, 1) := by decide +kernel
theorem dX10_total_20 : decode cX10_total 20 = .ok (.getfield 26, 3) := by decide +kernel
theorem dX10_total_23 : decode cX10_total 23 = .ok (.getfield 129, 3) := by decide +kernel
theorem dX10_total_26 : decode cX10_total 26 = .ok (.iload_n 1, 1) := by decide +kernel
theorem dX10_total_27 : decode cX10_total 27 = .ok (.iaload, 1) := by decide +kernel
theorem dX10_total_28 : decode cX10_total 28 = .ok (.goto 4, 3) := by decide +kernel
theorem dX10_total_31 : decode cX10_total 31 = .ok (.iconst (-1), 1) := by decide +kernel
theorem dX10_total_32 : decode cX10_total 32 = .ok (.ireturn, 1) := by decide +kernel
theorem dX10_row_0 : decode cX10_row 0 = .ok (.aload_n 0, 1) := by decide +kernel
theorem dX10_row_1 : decode cX10_row 1 = .ok (.getfield 44, 3) := by decide +kernel
theorem dX10_row_4 : decode cX10_row 4 = .ok (.iload_n 1, 1) := by decide +kernel
theorem dX10_row_5 : decode cX10_row 5 = .ok (.iload_n 2, 1) := by decide +kernel
theorem dX10_row_6 : decode cX10_row 6 = .ok (.invokevirtual 374, 3) := by decide +kernel
theorem dX10_row_9 : decode cX10_row 9 = .ok (.ireturn, 1) := by decide +kernel
theorem dX10_note_0 : decode cX10_note 0 = .ok (.aload_n 0, 1) := by decide +kernel
theorem dX10_note_1 : decode cX10_note 1 = .ok (.getfield 44, 3) := by decide +kernel
theorem dX10_note_4 : decode cX10_note 4 = .ok (.iload_n 1, 1) := by decide +kernel
theorem dX10_note_5 : decode cX10_note 5 = .ok (.iload_n 2, 1) := by decide +kernel
theorem dX10_note_6 : decode cX10_note 6 = .ok (.lload_n 3, 1) := by decide +kernel
theorem dX10_note_7 : decode cX10_note 7 = .ok (.invokevirtual 377, 3) := by decide +kernel
theorem dX10_note_10 : decode cX10_note 10 = .ok (.ireturn, 1) := by decide +kernel
theorem dX10_noted_0 : decode cX10_noted 0 = .ok (.aload_n 0, 1) := by decide +kernel
theorem dX10_noted_1 : decode cX10_noted 1 = .ok (.getfield 44, 3) := by decide +kernel
theorem dX10_noted_4 : decode cX10_noted 4 = .ok (.iload_n 1, 1) := by decide +kernel
theorem dX10_noted_5 : decode cX10_noted 5 = .ok (.invokevirtual 381, 3) := by decide +kernel
theorem dX10_noted_8 : decode cX10_noted 8 = .ok (.lreturn, 1) := by decide +kernel
theorem dX10_letter_0 : decode cX10_letter 0 = .ok (.iload_n 1, 1) := by decide +kernel
theorem dX10_letter_1 : decode cX10_letter 1 = .ok (.iconst (-1), 1) := by decide +kernel
theorem dX10_letter_2 : decode cX10_letter 2 = .ok (.if_icmp .ge 5, 3) := by decide +kernel
theorem dX10_letter_5 : decode cX10_letter 5 = .ok (.iconst (-1), 1) := by decide +kernel
theorem dX10_letter_6 : decode cX10_letter 6 = .ok (.ireturn, 1) := by decide +kernel
theorem dX10_letter_7 : decode cX10_letter 7 = .ok (.aload_n 0, 1) := by decide +kernel
theorem dX10_letter_8 : decode cX10_letter 8 = .ok (.getfield 19, 3) := by decide +kernel
theorem dX10_letter_11 : decode cX10_letter 11 = .ok (.aload_n 0, 1) := by decide +kernel
theorem dX10_letter_12 : decode cX10_letter 12 = .ok (.getfield 26, 3) := by decide +kernel
theorem dX10_letter_15 : decode cX10_letter 15 = .ok (.getfield 81, 3) := by decide +kernel
theorem dX10_letter_18 : decode cX10_letter 18 = .ok (.iload_n 1, 1) := by decide +kernel
theorem dX10_letter_19 : decode cX10_letter 19 = .ok (.invokevirtual 385, 3) := by decide +kernel
theorem dX10_letter_22 : decode cX10_letter 22 = .ok (.iload_n 1, 1) := by decide +kernel
theorem dX10_letter_23 : decode cX10_letter 23 = .ok (.iconst (-1), 1) := by decide +kernel
theorem dX10_letter_24 : decode cX10_letter 24 = .ok (.if_icmp .ne 11, 3) := by decide +kernel
theorem dX10_letter_27 : decode cX10_letter 27 = .ok (.aload_n 0, 1) := by decide +kernel
theorem dX10_letter_28 : decode cX10_letter 28 = .ok (.getfield 19, 3) := by decide +kernel
theorem dX10_letter_31 : decode cX10_letter 31 = .ok (.getfield 389, 3) := by decide +kernel
theorem dX10_letter_34 : decode cX10_letter 34 = .ok (.ireturn, 1) := by decide +kernel
theorem dX10_letter_35 : decode cX10_letter 35 = .ok (.iload_n 1, 1) := by decide +kernel
theorem dX10_letter_36 : decode cX10_letter 36 = .ok (.aload_n 0, 1) := by decide +kernel
theorem dX10_letter_37 : decode cX10_letter 37 = .ok (.getfield 19, 3) := by decide +kernel
theorem dX10_letter_40 : decode cX10_letter 40 = .ok (.getfield 389, 3) := by decide +kernel
theorem dX10_letter_43 : decode cX10_letter 43 = .ok (.if_icmp .ge 13, 3) := by decide +kernel
theorem dX10_letter_46 : decode cX10_letter 46 = .ok (.aload_n 0, 1) := by decide +kernel
theorem dX10_letter_47 : decode cX10_letter 47 = .ok (.getfield 19, 3) := by decide +kernel
theorem dX10_letter_50 : decode cX10_letter 50 = .ok (.getfield 390, 3) := by decide +kernel
theorem dX10_letter_53 : decode cX10_letter 53 = .ok (.goto 5, 3) := by decide +kernel
theorem dX10_letter_56 : decode cX10_letter 56 = .ok (.bipush (-2), 2) := by decide +kernel
theorem dX10_letter_58 : decode cX10_letter 58 = .ok (.ireturn, 1) := by decide +kernel
theorem dX10_count_0 : decode cX10_count 0 = .ok (.iload_n 1, 1) := by decide +kernel
theorem dX10_count_1 : decode cX10_count 1 = .ok (.tableswitch 160 0 8 #[51, 62, 73, 84, 95, 103, 111, 122, 152], 51) := by decide +kernel
theorem dX10_count_52 : decode cX10_count 52 = .ok (.aload_n 0, 1) := by decide +kernel
theorem dX10_count_53 : decode cX10_count 53 = .ok (.getfield 26, 3) := by decide +kernel
theorem dX10_count_56 : decode cX10_count 56 = .ok (.getfield 81, 3) := by decide +kernel
theorem dX10_count_59 : decode cX10_count 59 = .ok (.getfield 82, 3) := by decide +kernel
theorem dX10_count_62 : decode cX10_count 62 = .ok (.ireturn, 1) := by decide +kernel
theorem dX10_count_63 : decode cX10_count 63 = .ok (.aload_n 0, 1) := by decide +kernel
theorem dX10_count_64 : decode cX10_count 64 = .ok (.getfield 26, 3) := by decide +kernel
theorem dX10_count_67 : decode cX10_count 67 = .ok (.getfield 81, 3) := by decide +kernel
theorem dX10_count_70 : decode cX10_count 70 = .ok (.getfield 281, 3) := by decide +kernel
theorem dX10_count_73 : decode cX10_count 73 = .ok (.ireturn, 1) := by decide +kernel
theorem dX10_count_74 : decode cX10_count 74 = .ok (.aload_n 0, 1) := by decide +kernel
theorem dX10_count_75 : decode cX10_count 75 = .ok (.getfield 26, 3) := by decide +kernel
theorem dX10_count_78 : decode cX10_count 78 = .ok (.getfield 106, 3) := by decide +kernel
theorem dX10_count_81 : decode cX10_count 81 = .ok (.getfield 139, 3) := by decide +kernel
theorem dX10_count_84 : decode cX10_count 84 = .ok (.ireturn, 1) := by decide +kernel
theorem dX10_count_85 : decode cX10_count 85 = .ok (.aload_n 0, 1) := by decide +kernel
theorem dX10_count_86 : decode cX10_count 86 = .ok (.getfield 26, 3) := by decide +kernel
theorem dX10_count_89 : decode cX10_count 89 = .ok (.getfield 106, 3) := by decide +kernel
theorem dX10_count_92 : decode cX10_count 92 = .ok (.invokevirtual 275, 3) := by decide +kernel
theorem dX10_count_95 : decode cX10_count 95 = .ok (.ireturn, 1) := by decide +kernel
theorem dX10_count_96 : decode cX10_count 96 = .ok (.aload_n 0, 1) := by decide +kernel
theorem dX10_count_97 : decode cX10_count 97 = .ok (.getfield 26, 3) := by decide +kernel
theorem dX10_count_100 : decode cX10_count 100 = .ok (.getfield 142, 3) := by decide +kernel
theorem dX10_count_103 : decode cX10_count 103 = .ok (.ireturn, 1) := by decide +kernel
theorem dX10_count_104 : decode cX10_count 104 = .ok (.aload_n 0, 1) := by decide +kernel
theorem dX10_count_105 : decode cX10_count 105 = .ok (.getfield 33, 3) := by decide +kernel
theorem dX10_count_108 : decode cX10_count 108 = .ok (.getfield 393, 3) := by decide +kernel
theorem dX10_count_111 : decode cX10_count 111 = .ok (.ireturn, 1) := by decide +kernel
theorem dX10_count_112 : decode cX10_count 112 = .ok (.aload_n 0, 1) := by decide +kernel
theorem dX10_count_113 : decode cX10_count 113 = .ok (.getfield 10, 3) := by decide +kernel
theorem dX10_count_116 : decode cX10_count 116 = .ok (.getfield 48, 3) := by decide +kernel
theorem dX10_count_119 : decode cX10_count 119 = .ok (.getfield 66, 3) := by decide +kernel
theorem dX10_count_122 : decode cX10_count 122 = .ok (.ireturn, 1) := by decide +kernel
theorem dX10_count_123 : decode cX10_count 123 = .ok (.aload_n 0, 1) := by decide +kernel
theorem dX10_count_124 : decode cX10_count 124 = .ok (.getfield 37, 3) := by decide +kernel
theorem dX10_count_127 : decode cX10_count 127 = .ok (.iconst 0, 1) := by decide +kernel
theorem dX10_count_128 : decode cX10_count 128 = .ok (.aaload, 1) := by decide +kernel
theorem dX10_count_129 : decode cX10_count 129 = .ok (.ifnonnull 7, 3) := by decide +kernel
theorem dX10_count_132 : decode cX10_count 132 = .ok (.iconst 0, 1) := by decide +kernel
theorem dX10_count_133 : decode cX10_count 133 = .ok (.goto 4, 3) := by decide +kernel
theorem dX10_count_136 : decode cX10_count 136 = .ok (.iconst 1, 1) := by decide +kernel
theorem dX10_count_137 : decode cX10_count 137 = .ok (.aload_n 0, 1) := by decide +kernel
theorem dX10_count_138 : decode cX10_count 138 = .ok (.getfield 37, 3) := by decide +kernel
theorem dX10_count_141 : decode cX10_count 141 = .ok (.iconst 1, 1) := by decide +kernel
theorem dX10_count_142 : decode cX10_count 142 = .ok (.aaload, 1) := by decide +kernel
theorem dX10_count_143 : decode cX10_count 143 = .ok (.ifnonnull 7, 3) := by decide +kernel
theorem dX10_count_146 : decode cX10_count 146 = .ok (.iconst 0, 1) := by decide +kernel
theorem dX10_count_147 : decode cX10_count 147 = .ok (.goto 4, 3) := by decide +kernel
theorem dX10_count_150 : decode cX10_count 150 = .ok (.iconst 2, 1) := by decide +kernel
theorem dX10_count_151 : decode cX10_count 151 = .ok (.iadd, 1) := by decide +kernel
theorem dX10_count_152 : decode cX10_count 152 = .ok (.ireturn, 1) := by decide +kernel
theorem dX10_count_153 : decode cX10_count 153 = .ok (.aload_n 0, 1) := by decide +kernel
theorem dX10_count_154 : decode cX10_count 154 = .ok (.getfield 44, 3) := by decide +kernel
theorem dX10_count_157 : decode cX10_count 157 = .ok (.getfield 396, 3) := by decide +kernel
theorem dX10_count_160 : decode cX10_count 160 = .ok (.ireturn, 1) := by decide +kernel
theorem dX10_count_161 : decode cX10_count 161 = .ok (.iconst (-1), 1) := by decide +kernel
theorem dX10_count_162 : decode cX10_count 162 = .ok (.ireturn, 1) := by decide +kernel
theorem dX10_isAmount_0 : decode cX10_isAmount 0 = .ok (.iload_n 0, 1) := by decide +kernel
theorem dX10_isAmount_1 : decode cX10_isAmount 1 = .ok (.iconst 1, 1) := by decide +kernel
theorem dX10_isAmount_2 : decode cX10_isAmount 2 = .ok (.if_icmp .lt 13, 3) := by decide +kernel
theorem dX10_isAmount_5 : decode cX10_isAmount 5 = .ok (.iload_n 0, 1) := by decide +kernel
theorem dX10_isAmount_6 : decode cX10_isAmount 6 = .ok (.ldc 194, 2) := by decide +kernel
theorem dX10_isAmount_8 : decode cX10_isAmount 8 = .ok (.if_icmp .gt 7, 3) := by decide +kernel
theorem dX10_isAmount_11 : decode cX10_isAmount 11 = .ok (.iconst 1, 1) := by decide +kernel
theorem dX10_isAmount_12 : decode cX10_isAmount 12 = .ok (.goto 4, 3) := by decide +kernel
theorem dX10_isAmount_15 : decode cX10_isAmount 15 = .ok (.iconst 0, 1) := by decide +kernel
theorem dX10_isAmount_16 : decode cX10_isAmount 16 = .ok (.ireturn, 1) := by decide +kernel
theorem dX10_isDays_0 : decode cX10_isDays 0 = .ok (.iload_n 0, 1) := by decide +kernel
theorem dX10_isDays_1 : decode cX10_isDays 1 = .ok (.iconst 1, 1) := by decide +kernel
theorem dX10_isDays_2 : decode cX10_isDays 2 = .ok (.if_icmp .lt 13, 3) := by decide +kernel
theorem dX10_isDays_5 : decode cX10_isDays 5 = .ok (.iload_n 0, 1) := by decide +kernel
theorem dX10_isDays_6 : decode cX10_isDays 6 = .ok (.bipush 90, 2) := by decide +kernel
theorem dX10_isDays_8 : decode cX10_isDays 8 = .ok (.if_icmp .gt 7, 3) := by decide +kernel
theorem dX10_isDays_11 : decode cX10_isDays 11 = .ok (.iconst 1, 1) := by decide +kernel
theorem dX10_isDays_12 : decode cX10_isDays 12 = .ok (.goto 4, 3) := by decide +kernel
theorem dX10_isDays_15 : decode cX10_isDays 15 = .ok (.iconst 0, 1) := by decide +kernel
theorem dX10_isDays_16 : decode cX10_isDays 16 = .ok (.ireturn, 1) := by decide +kernel
theorem dX10_isTold_0 : decode cX10_isTold 0 = .ok (.iload_n 0, 1) := by decide +kernel
theorem dX10_isTold_1 : decode cX10_isTold 1 = .ok (.ifCond .lt 12, 3) := by decide +kernel
theorem dX10_isTold_4 : decode cX10_isTold 4 = .ok (.iload_n 0, 1) := by decide +kernel
theorem dX10_isTold_5 : decode cX10_isTold 5 = .ok (.iconst 5, 1) := by decide +kernel
theorem dX10_isTold_6 : decode cX10_isTold 6 = .ok (.if_icmp .gt 7, 3) := by decide +kernel
theorem dX10_isTold_9 : decode cX10_isTold 9 = .ok (.iconst 1, 1) := by decide +kernel
theorem dX10_isTold_10 : decode cX10_isTold 10 = .ok (.goto 4, 3) := by decide +kernel
theorem dX10_isTold_13 : decode cX10_isTold 13 = .ok (.iconst 0, 1) := by decide +kernel
theorem dX10_isTold_14 : decode cX10_isTold 14 = .ok (.ireturn, 1) := by decide +kernel
theorem dX10_pairOf_0 : decode cX10_pairOf 0 = .ok (.iload_n 0, 1) := by decide +kernel
theorem dX10_pairOf_1 : decode cX10_pairOf 1 = .ok (.iconst 4, 1) := by decide +kernel
theorem dX10_pairOf_2 : decode cX10_pairOf 2 = .ok (.imul, 1) := by decide +kernel
theorem dX10_pairOf_3 : decode cX10_pairOf 3 = .ok (.iload_n 1, 1) := by decide +kernel
theorem dX10_pairOf_4 : decode cX10_pairOf 4 = .ok (.iadd, 1) := by decide +kernel
theorem dX10_pairOf_5 : decode cX10_pairOf 5 = .ok (.ireturn, 1) := by decide +kernel
theorem dX10_logPlace_0 : decode cX10_logPlace 0 = .ok (.iload_n 0, 1) := by decide +kernel
theorem dX10_logPlace_1 : decode cX10_logPlace 1 = .ok (.iconst 4, 1) := by decide +kernel
theorem dX10_logPlace_2 : decode cX10_logPlace 2 = .ok (.imul, 1) := by decide +kernel
theorem dX10_logPlace_3 : decode cX10_logPlace 3 = .ok (.iload_n 1, 1) := by decide +kernel
theorem dX10_logPlace_4 : decode cX10_logPlace 4 = .ok (.iadd, 1) := by decide +kernel
theorem dX10_logPlace_5 : decode cX10_logPlace 5 = .ok (.iconst 5, 1) := by decide +kernel
theorem dX10_logPlace_6 : decode cX10_logPlace 6 = .ok (.imul, 1) := by decide +kernel
theorem dX10_logPlace_7 : decode cX10_logPlace 7 = .ok (.iload_n 2, 1) := by decide +kernel
theorem dX10_logPlace_8 : decode cX10_logPlace 8 = .ok (.iadd, 1) := by decide +kernel
theorem dX10_logPlace_9 : decode cX10_logPlace 9 = .ok (.ireturn, 1) := by decide +kernel
theorem dX10_partOfAll_0 : decode cX10_partOfAll 0 = .ok (.lload_n 2, 1) := by decide +kernel
theorem dX10_partOfAll_1 : decode cX10_partOfAll 1 = .ok (.lconst 0, 1) := by decide +kernel
theorem dX10_partOfAll_2 : decode cX10_partOfAll 2 = .ok (.lcmp, 1) := by decide +kernel
theorem dX10_partOfAll_3 : decode cX10_partOfAll 3 = .ok (.ifCond .le 14, 3) := by decide +kernel
theorem dX10_partOfAll_6 : decode cX10_partOfAll 6 = .ok (.iload_n 0, 1) := by decide +kernel
theorem dX10_partOfAll_7 : decode cX10_partOfAll 7 = .ok (.i2l, 1) := by decide +kernel
theorem dX10_partOfAll_8 : decode cX10_partOfAll 8 = .ok (.iload_n 1, 1) := by decide +kernel
theorem dX10_partOfAll_9 : decode cX10_partOfAll 9 = .ok (.i2l, 1) := by decide +kernel
theorem dX10_partOfAll_10 : decode cX10_partOfAll 10 = .ok (.lmul, 1) := by decide +kernel
theorem dX10_partOfAll_11 : decode cX10_partOfAll 11 = .ok (.lload_n 2, 1) := by decide +kernel
theorem dX10_partOfAll_12 : decode cX10_partOfAll 12 = .ok (.ldiv, 1) := by decide +kernel
theorem dX10_partOfAll_13 : decode cX10_partOfAll 13 = .ok (.l2i, 1) := by decide +kernel
theorem dX10_partOfAll_14 : decode cX10_partOfAll 14 = .ok (.goto 4, 3) := by decide +kernel
theorem dX10_partOfAll_17 : decode cX10_partOfAll 17 = .ok (.iconst 0, 1) := by decide +kernel
theorem dX10_partOfAll_18 : decode cX10_partOfAll 18 = .ok (.ireturn, 1) := by decide +kernel
theorem dX10_bitsOf_0 : decode cX10_bitsOf 0 = .ok (.dload_n 0, 1) := by decide +kernel
theorem dX10_bitsOf_1 : decode cX10_bitsOf 1 = .ok (.dconst 0, 1) := by decide +kernel
theorem dX10_bitsOf_2 : decode cX10_bitsOf 2 = .ok (.dcmp .l, 1) := by decide +kernel
theorem dX10_bitsOf_3 : decode cX10_bitsOf 3 = .ok (.ifCond .ne 5, 3) := by decide +kernel
theorem dX10_bitsOf_6 : decode cX10_bitsOf 6 = .ok (.lconst 0, 1) := by decide +kernel
theorem dX10_bitsOf_7 : decode cX10_bitsOf 7 = .ok (.lreturn, 1) := by decide +kernel
theorem dX10_bitsOf_8 : decode cX10_bitsOf 8 = .ok (.dload_n 0, 1) := by decide +kernel
theorem dX10_bitsOf_9 : decode cX10_bitsOf 9 = .ok (.dconst 0, 1) := by decide +kernel
theorem dX10_bitsOf_10 : decode cX10_bitsOf 10 = .ok (.dcmp .g, 1) := by decide +kernel
theorem dX10_bitsOf_11 : decode cX10_bitsOf 11 = .ok (.ifCond .ge 8, 3) := by decide +kernel
theorem dX10_bitsOf_14 : decode cX10_bitsOf 14 = .ok (.dload_n 0, 1) := by decide +kernel
theorem dX10_bitsOf_15 : decode cX10_bitsOf 15 = .ok (.dneg, 1) := by decide +kernel
theorem dX10_bitsOf_16 : decode cX10_bitsOf 16 = .ok (.goto 4, 3) := by decide +kernel
theorem dX10_bitsOf_19 : decode cX10_bitsOf 19 = .ok (.dload_n 0, 1) := by decide +kernel
theorem dX10_bitsOf_20 : decode cX10_bitsOf 20 = .ok (.dstore_n 2, 1) := by decide +kernel
theorem dX10_bitsOf_21 : decode cX10_bitsOf 21 = .ok (.ldc2_w 397, 3) := by decide +kernel
theorem dX10_bitsOf_24 : decode cX10_bitsOf 24 = .ok (.lstore 4, 2) := by decide +kernel
theorem dX10_bitsOf_26 : decode cX10_bitsOf 26 = .ok (.iconst 0, 1) := by decide +kernel
theorem dX10_bitsOf_27 : decode cX10_bitsOf 27 = .ok (.istore 6, 2) := by decide +kernel
theorem dX10_bitsOf_29 : decode cX10_bitsOf 29 = .ok (.iload 6, 2) := by decide +kernel
theorem dX10_bitsOf_31 : decode cX10_bitsOf 31 = .ok (.sipush 1100, 3) := by decide +kernel
theorem dX10_bitsOf_34 : decode cX10_bitsOf 34 = .ok (.if_icmp .ge 29, 3) := by decide +kernel
theorem dX10_bitsOf_37 : decode cX10_bitsOf 37 = .ok (.dload_n 2, 1) := by decide +kernel
theorem dX10_bitsOf_38 : decode cX10_bitsOf 38 = .ok (.ldc2_w 399, 3) := by decide +kernel
theorem dX10_bitsOf_41 : decode cX10_bitsOf 41 = .ok (.dcmp .l, 1) := by decide +kernel
theorem dX10_bitsOf_42 : decode cX10_bitsOf 42 = .ok (.ifCond .lt 21, 3) := by decide +kernel
theorem dX10_bitsOf_45 : decode cX10_bitsOf 45 = .ok (.dload_n 2, 1) := by decide +kernel
theorem dX10_bitsOf_46 : decode cX10_bitsOf 46 = .ok (.ldc2_w 399, 3) := by decide +kernel
theorem dX10_bitsOf_49 : decode cX10_bitsOf 49 = .ok (.ddiv, 1) := by decide +kernel
theorem dX10_bitsOf_50 : decode cX10_bitsOf 50 = .ok (.dstore_n 2, 1) := by decide +kernel
theorem dX10_bitsOf_51 : decode cX10_bitsOf 51 = .ok (.lload 4, 2) := by decide +kernel
theorem dX10_bitsOf_53 : decode cX10_bitsOf 53 = .ok (.lconst 1, 1) := by decide +kernel
theorem dX10_bitsOf_54 : decode cX10_bitsOf 54 = .ok (.ladd, 1) := by decide +kernel
theorem dX10_bitsOf_55 : decode cX10_bitsOf 55 = .ok (.lstore 4, 2) := by decide +kernel
theorem dX10_bitsOf_57 : decode cX10_bitsOf 57 = .ok (.iinc 6 1, 3) := by decide +kernel
theorem dX10_bitsOf_60 : decode cX10_bitsOf 60 = .ok (.goto (-31), 3) := by decide +kernel
theorem dX10_bitsOf_63 : decode cX10_bitsOf 63 = .ok (.iconst 0, 1) := by decide +kernel
theorem dX10_bitsOf_64 : decode cX10_bitsOf 64 = .ok (.istore 6, 2) := by decide +kernel
theorem dX10_bitsOf_66 : decode cX10_bitsOf 66 = .ok (.iload 6, 2) := by decide +kernel
theorem dX10_bitsOf_68 : decode cX10_bitsOf 68 = .ok (.sipush 1100, 3) := by decide +kernel
theorem dX10_bitsOf_71 : decode cX10_bitsOf 71 = .ok (.if_icmp .ge 27, 3) := by decide +kernel
theorem dX10_bitsOf_74 : decode cX10_bitsOf 74 = .ok (.dload_n 2, 1) := by decide +kernel
theorem dX10_bitsOf_75 : decode cX10_bitsOf 75 = .ok (.dconst 1, 1) := by decide +kernel
theorem dX10_bitsOf_76 : decode cX10_bitsOf 76 = .ok (.dcmp .g, 1) := by decide +kernel
theorem dX10_bitsOf_77 : decode cX10_bitsOf 77 = .ok (.ifCond .ge 21, 3) := by decide +kernel
theorem dX10_bitsOf_80 : decode cX10_bitsOf 80 = .ok (.dload_n 2, 1) := by decide +kernel
theorem dX10_bitsOf_81 : decode cX10_bitsOf 81 = .ok (.ldc2_w 399, 3) := by decide +kernel
theorem dX10_bitsOf_84 : decode cX10_bitsOf 84 = .ok (.dmul, 1) := by decide +kernel
theorem dX10_bitsOf_85 : decode cX10_bitsOf 85 = .ok (.dstore_n 2, 1) := by decide +kernel
theorem dX10_bitsOf_86 : decode cX10_bitsOf 86 = .ok (.lload 4, 2) := by decide +kernel
theorem dX10_bitsOf_88 : decode cX10_bitsOf 88 = .ok (.lconst 1, 1) := by decide +kernel
theorem dX10_bitsOf_89 : decode cX10_bitsOf 89 = .ok (.lsub, 1) := by decide +kernel
theorem dX10_bitsOf_90 : decode cX10_bitsOf 90 = .ok (.lstore 4, 2) := by decide +kernel
theorem dX10_bitsOf_92 : decode cX10_bitsOf 92 = .ok (.iinc 6 1, 3) := by decide +kernel
theorem dX10_bitsOf_95 : decode cX10_bitsOf 95 = .ok (.goto (-29), 3) := by decide +kernel
theorem dX10_bitsOf_98 : decode cX10_bitsOf 98 = .ok (.dload_n 2, 1) := by decide +kernel
theorem dX10_bitsOf_99 : decode cX10_bitsOf 99 = .ok (.dconst 1, 1) := by decide +kernel
theorem dX10_bitsOf_100 : decode cX10_bitsOf 100 = .ok (.dsub, 1) := by decide +kernel
theorem dX10_bitsOf_101 : decode cX10_bitsOf 101 = .ok (.ldc2_w 401, 3) := by decide +kernel
theorem dX10_bitsOf_104 : decode cX10_bitsOf 104 = .ok (.dmul, 1) := by decide +kernel
theorem dX10_bitsOf_105 : decode cX10_bitsOf 105 = .ok (.d2l, 1) := by decide +kernel
theorem dX10_bitsOf_106 : decode cX10_bitsOf 106 = .ok (.lstore 6, 2) := by decide +kernel
theorem dX10_bitsOf_108 : decode cX10_bitsOf 108 = .ok (.dload_n 0, 1) := by decide +kernel
theorem dX10_bitsOf_109 : decode cX10_bitsOf 109 = .ok (.dconst 0, 1) := by decide +kernel
theorem dX10_bitsOf_110 : decode cX10_bitsOf 110 = .ok (.dcmp .g, 1) := by decide +kernel
theorem dX10_bitsOf_111 : decode cX10_bitsOf 111 = .ok (.ifCond .ge 9, 3) := by decide +kernel
theorem dX10_bitsOf_114 : decode cX10_bitsOf 114 = .ok (.ldc2_w 403, 3) := by decide +kernel
theorem dX10_bitsOf_117 : decode cX10_bitsOf 117 = .ok (.goto 4, 3) := by decide +kernel
theorem dX10_bitsOf_120 : decode cX10_bitsOf 120 = .ok (.lconst 0, 1) := by decide +kernel
theorem dX10_bitsOf_121 : decode cX10_bitsOf 121 = .ok (.lload 4, 2) := by decide +kernel
theorem dX10_bitsOf_123 : decode cX10_bitsOf 123 = .ok (.bipush 52, 2) := by decide +kernel
theorem dX10_bitsOf_125 : decode cX10_bitsOf 125 = .ok (.lshl, 1) := by decide +kernel
theorem dX10_bitsOf_126 : decode cX10_bitsOf 126 = .ok (.lor, 1) := by decide +kernel
theorem dX10_bitsOf_127 : decode cX10_bitsOf 127 = .ok (.lload 6, 2) := by decide +kernel
theorem dX10_bitsOf_129 : decode cX10_bitsOf 129 = .ok (.lor, 1) := by decide +kernel
theorem dX10_bitsOf_130 : decode cX10_bitsOf 130 = .ok (.lreturn, 1) := by decide +kernel
theorem dX10_bitsOfFloat_0 : decode cX10_bitsOfFloat 0 = .ok (.fload_n 0, 1) := by decide +kernel
theorem dX10_bitsOfFloat_1 : decode cX10_bitsOfFloat 1 = .ok (.f2d, 1) := by decide +kernel
theorem dX10_bitsOfFloat_2 : decode cX10_bitsOfFloat 2 = .ok (.invokestatic 177, 3) := by decide +kernel
theorem dX10_bitsOfFloat_5 : decode cX10_bitsOfFloat 5 = .ok (.lstore_n 1, 1) := by decide +kernel
theorem dX10_bitsOfFloat_6 : decode cX10_bitsOfFloat 6 = .ok (.lload_n 1, 1) := by decide +kernel
theorem dX10_bitsOfFloat_7 : decode cX10_bitsOfFloat 7 = .ok (.lconst 0, 1) := by decide +kernel
theorem dX10_bitsOfFloat_8 : decode cX10_bitsOfFloat 8 = .ok (.lcmp, 1) := by decide +kernel
theorem dX10_bitsOfFloat_9 : decode cX10_bitsOfFloat 9 = .ok (.ifCond .ne 5, 3) := by decide +kernel
theorem dX10_bitsOfFloat_12 : decode cX10_bitsOfFloat 12 = .ok (.iconst 0, 1) := by decide +kernel
theorem dX10_bitsOfFloat_13 : decode cX10_bitsOfFloat 13 = .ok (.ireturn, 1) := by decide +kernel
theorem dX10_bitsOfFloat_14 : decode cX10_bitsOfFloat 14 = .ok (.lload_n 1, 1) := by decide +kernel
theorem dX10_bitsOfFloat_15 : decode cX10_bitsOfFloat 15 = .ok (.bipush 52, 2) := by decide +kernel
theorem dX10_bitsOfFloat_17 : decode cX10_bitsOfFloat 17 = .ok (.lshr, 1) := by decide +kernel
theorem dX10_bitsOfFloat_18 : decode cX10_bitsOfFloat 18 = .ok (.l2i, 1) := by decide +kernel
theorem dX10_bitsOfFloat_19 : decode cX10_bitsOfFloat 19 = .ok (.sipush 1023, 3) := by decide +kernel
theorem dX10_bitsOfFloat_22 : decode cX10_bitsOfFloat 22 = .ok (.isub, 1) := by decide +kernel
theorem dX10_bitsOfFloat_23 : decode cX10_bitsOfFloat 23 = .ok (.bipush 127, 2) := by decide +kernel
theorem dX10_bitsOfFloat_25 : decode cX10_bitsOfFloat 25 = .ok (.iadd, 1) := by decide +kernel
theorem dX10_bitsOfFloat_26 : decode cX10_bitsOfFloat 26 = .ok (.istore_n 3, 1) := by decide +kernel
theorem dX10_bitsOfFloat_27 : decode cX10_bitsOfFloat 27 = .ok (.iload_n 3, 1) := by decide +kernel
theorem dX10_bitsOfFloat_28 : decode cX10_bitsOfFloat 28 = .ok (.bipush 23, 2) := by decide +kernel
theorem dX10_bitsOfFloat_30 : decode cX10_bitsOfFloat 30 = .ok (.ishl, 1) := by decide +kernel
theorem dX10_bitsOfFloat_31 : decode cX10_bitsOfFloat 31 = .ok (.lload_n 1, 1) := by decide +kernel
theorem dX10_bitsOfFloat_32 : decode cX10_bitsOfFloat 32 = .ok (.ldc2_w 405, 3) := by decide +kernel
theorem dX10_bitsOfFloat_35 : decode cX10_bitsOfFloat 35 = .ok (.land, 1) := by decide +kernel
theorem dX10_bitsOfFloat_36 : decode cX10_bitsOfFloat 36 = .ok (.bipush 29, 2) := by decide +kernel
theorem dX10_bitsOfFloat_38 : decode cX10_bitsOfFloat 38 = .ok (.lshr, 1) := by decide +kernel
theorem dX10_bitsOfFloat_39 : decode cX10_bitsOfFloat 39 = .ok (.l2i, 1) := by decide +kernel
theorem dX10_bitsOfFloat_40 : decode cX10_bitsOfFloat 40 = .ok (.ior, 1) := by decide +kernel
theorem dX10_bitsOfFloat_41 : decode cX10_bitsOfFloat 41 = .ok (.ireturn, 1) := by decide +kernel
theorem dX11_init_0 : decode cX11_init 0 = .ok (.aload_n 0, 1) := by decide +kernel
theorem dX11_init_1 : decode cX11_init 1 = .ok (.invokespecial 1, 3) := by decide +kernel
theorem dX11_init_4 : decode cX11_init 4 = .ok (.aload_n 0, 1) := by decide +kernel
theorem dX11_init_5 : decode cX11_init 5 = .ok (.sipush 1216, 3) := by decide +kernel
theorem dX11_init_8 : decode cX11_init 8 = .ok (.newarray .long, 2) := by decide +kernel
theorem dX11_init_10 : decode cX11_init 10 = .ok (.putfield 9, 3) := by decide +kernel
theorem dX11_init_13 : decode cX11_init 13 = .ok (.aload_n 0, 1) := by decide +kernel
theorem dX11_init_14 : decode cX11_init 14 = .ok (.sipush 1216, 3) := by decide +kernel
theorem dX11_init_17 : decode cX11_init 17 = .ok (.newarray .long, 2) := by decide +kernel
theorem dX11_init_19 : decode cX11_init 19 = .ok (.putfield 13, 3) := by decide +kernel
theorem dX11_init_22 : decode cX11_init 22 = .ok (.aload_n 0, 1) := by decide +kernel
theorem dX11_init_23 : decode cX11_init 23 = .ok (.sipush 1216, 3) := by decide +kernel
theorem dX11_init_26 : decode cX11_init 26 = .ok (.newarray .long, 2) := by decide +kernel
theorem dX11_init_28 : decode cX11_init 28 = .ok (.putfield 16, 3) := by decide +kernel
theorem dX11_init_31 : decode cX11_init 31 = .ok (.aload_n 0, 1) := by decide +kernel
theorem dX11_init_32 : decode cX11_init 32 = .ok (.sipush 12160, 3) := by decide +kernel
theorem dX11_init_35 : decode cX11_init 35 = .ok (.newarray .long, 2) := by decide +kernel
theorem dX11_init_37 : decode cX11_init 37 = .ok (.putfield 19, 3) := by decide +kernel
theorem dX11_init_40 : decode cX11_init 40 = .ok (.aload_n 0, 1) := by decide +kernel
theorem dX11_init_41 : decode cX11_init 41 = .ok (.sipush 2432, 3) := by decide +kernel
theorem dX11_init_44 : decode cX11_init 44 = .ok (.newarray .long, 2) := by decide +kernel
theorem dX11_init_46 : decode cX11_init 46 = .ok (.putfield 22, 3) := by decide +kernel
theorem dX11_init_49 : decode cX11_init 49 = .ok (.aload_n 0, 1) := by decide +kernel
theorem dX11_init_50 : decode cX11_init 50 = .ok (.iconst 2, 1) := by decide +kernel
theorem dX11_init_51 : decode cX11_init 51 = .ok (.newarray .boolean, 2) := by decide +kernel
theorem dX11_init_53 : decode cX11_init 53 = .ok (.putfield 25, 3) := by decide +kernel
theorem dX11_init_56 : decode cX11_init 56 = .ok (.aload_n 0, 1) := by decide +kernel
theorem dX11_init_57 : decode cX11_init 57 = .ok (.sipush 400, 3) := by decide +kernel
theorem dX11_init_60 : decode cX11_init 60 = .ok (.newarray .byte, 2) := by decide +kernel
theorem dX11_init_62 : decode cX11_init 62 = .ok (.putfield 29, 3) := by decide +kernel
theorem dX11_init_65 : decode cX11_init 65 = .ok (.aload_n 0, 1) := by decide +kernel
theorem dX11_init_66 : decode cX11_init 66 = .ok (.bipush 40, 2) := by decide +kernel
theorem dX11_init_68 : decode cX11_init 68 = .ok (.newarray .long, 2) := by decide +kernel
theorem dX11_init_70 : decode cX11_init 70 = .ok (.putfield 33, 3) := by decide +kernel
theorem dX11_init_73 : decode cX11_init 73 = .ok (.aload_n 0, 1) := by decide +kernel
theorem dX11_init_74 : decode cX11_init 74 = .ok (.iconst (-1), 1) := by decide +kernel
theorem dX11_init_75 : decode cX11_init 75 = .ok (.putfield 36, 3) := by decide +kernel
theorem dX11_init_78 : decode cX11_init 78 = .ok (.return_, 1) := by decide +kernel
theorem dX11_in_0 : decode cX11_in 0 = .ok (.lload_n 0, 1) := by decide +kernel
theorem dX11_in_1 : decode cX11_in 1 = .ok (.lload_n 2, 1) := by decide +kernel
theorem dX11_in_2 : decode cX11_in 2 = .ok (.lcmp, 1) := by decide +kernel
theorem dX11_in_3 : decode cX11_in 3 = .ok (.ifCond .lt 14, 3) := by decide +kernel
theorem dX11_in_6 : decode cX11_in 6 = .ok (.lload_n 0, 1) := by decide +kernel
theorem dX11_in_7 : decode cX11_in 7 = .ok (.lload 4, 2) := by decide +kernel
theorem dX11_in_9 : decode cX11_in 9 = .ok (.lcmp, 1) := by decide +kernel
theorem dX11_in_10 : decode cX11_in 10 = .ok (.ifCond .gt 7, 3) := by decide +kernel
theorem dX11_in_13 : decode cX11_in 13 = .ok (.iconst 1, 1) := by decide +kernel
theorem dX11_in_14 : decode cX11_in 14 = .ok (.goto 4, 3) := by decide +kernel
theorem dX11_in_17 : decode cX11_in 17 = .ok (.iconst 0, 1) := by decide +kernel
theorem dX11_in_18 : decode cX11_in 18 = .ok (.ireturn, 1) := by decide +kernel
theorem dX11_truth_0 : decode cX11_truth 0 = .ok (.iload_n 0, 1) := by decide +kernel
theorem dX11_truth_1 : decode cX11_truth 1 = .ok (.ifCond .eq 7, 3) := by decide +kernel
theorem dX11_truth_4 : decode cX11_truth 4 = .ok (.iconst 1, 1) := by decide +kernel
theorem dX11_truth_5 : decode cX11_truth 5 = .ok (.goto 4, 3) := by decide +kernel
theorem dX11_truth_8 : decode cX11_truth 8 = .ok (.iconst 0, 1) := by decide +kernel
theorem dX11_truth_9 : decode cX11_truth 9 = .ok (.ireturn, 1) := by decide +kernel
theorem dX11_moves_0 : decode cX11_moves 0 = .ok (.iconst 0, 1) := by decide +kernel
theorem dX11_moves_1 : decode cX11_moves 1 = .ok (.istore 4, 2) := by decide +kernel
theorem dX11_moves_3 : decode cX11_moves 3 = .ok (.iload 4, 2) := by decide +kernel
theorem dX11_moves_5 : decode cX11_moves 5 = .ok (.sipush 1216, 3) := by decide +kernel
theorem dX11_moves_8 : decode cX11_moves 8 = .ok (.if_icmp .ge 29, 3) := by decide +kernel
theorem dX11_moves_11 : decode cX11_moves 11 = .ok (.aload_n 2, 1) := by decide +kernel
theorem dX11_moves_12 : decode cX11_moves 12 = .ok (.sipush 1216, 3) := by decide +kernel
theorem dX11_moves_15 : decode cX11_moves 15 = .ok (.iload_n 3, 1) := by decide +kernel
theorem dX11_moves_16 : decode cX11_moves 16 = .ok (.imul, 1) := by decide +kernel
theorem dX11_moves_17 : decode cX11_moves 17 = .ok (.iload 4, 2) := by decide +kernel
theorem dX11_moves_19 : decode cX11_moves 19 = .ok (.iadd, 1) := by decide +kernel
theorem dX11_moves_20 : decode cX11_moves 20 = .ok (.aload_n 0, 1) := by decide +kernel
theorem dX11_moves_21 : decode cX11_moves 21 = .ok (.sipush 1216, 3) := by decide +kernel
theorem dX11_moves_24 : decode cX11_moves 24 = .ok (.iload_n 1, 1) := by decide +kernel
theorem dX11_moves_25 : decode cX11_moves 25 = .ok (.imul, 1) := by decide +kernel
theorem dX11_moves_26 : decode cX11_moves 26 = .ok (.iload 4, 2) := by decide +kernel
theorem dX11_moves_28 : decode cX11_moves 28 = .ok (.iadd, 1) := by decide +kernel
theorem dX11_moves_29 : decode cX11_moves 29 = .ok (.laload, 1) := by decide +kernel
theorem dX11_moves_30 : decode cX11_moves 30 = .ok (.lastore, 1) := by decide +kernel
theorem dX11_moves_31 : decode cX11_moves 31 = .ok (.iinc 4 1, 3) := by decide +kernel
theorem dX11_moves_34 : decode cX11_moves 34 = .ok (.goto (-31), 3) := by decide +kernel
theorem dX11_moves_37 : decode cX11_moves 37 = .ok (.return_, 1) := by decide +kernel
theorem dX11_originAt_0 : decode cX11_originAt 0 = .ok (.bipush 16, 2) := by decide +kernel
theorem dX11_originAt_2 : decode cX11_originAt 2 = .ok (.bipush 8, 2) := by decide +kernel
theorem dX11_originAt_4 : decode cX11_originAt 4 = .ok (.iload_n 0, 1) := by decide +kernel
theorem dX11_originAt_5 : decode cX11_originAt 5 = .ok (.imul, 1) := by decide +kernel
theorem dX11_originAt_6 : decode cX11_originAt 6 = .ok (.iadd, 1) := by decide +kernel
theorem dX11_originAt_7 : decode cX11_originAt 7 = .ok (.iload_n 1, 1) := by decide +kernel
theorem dX11_originAt_8 : decode cX11_originAt 8 = .ok (.iadd, 1) := by decide +kernel
theorem dX11_originAt_9 : decode cX11_originAt 9 = .ok (.ireturn, 1) := by decide +kernel
theorem dX11_pairAt_0 : decode cX11_pairAt 0 = .ok (.bipush 48, 2) := by decide +kernel
theorem dX11_pairAt_2 : decode cX11_pairAt 2 = .ok (.bipush 8, 2) := by decide +kernel
theorem dX11_pairAt_4 : decode cX11_pairAt 4 = .ok (.iconst 4, 1) := by decide +kernel
theorem dX11_pairAt_5 : decode cX11_pairAt 5 = .ok (.iload_n 0, 1) := by decide +kernel
theorem dX11_pairAt_6 : decode cX11_pairAt 6 = .ok (.imul, 1) := by decide +kernel
theorem dX11_pairAt_7 : decode cX11_pairAt 7 = .ok (.iload_n 1, 1) := by decide +kernel
theorem dX11_pairAt_8 : decode cX11_pairAt 8 = .ok (.iadd, 1) := by decide +kernel
theorem dX11_pairAt_9 : decode cX11_pairAt 9 = .ok (.imul, 1) := by decide +kernel
theorem dX11_pairAt_10 : decode cX11_pairAt 10 = .ok (.iadd, 1) := by decide +kernel
theorem dX11_pairAt_11 : decode cX11_pairAt 11 = .ok (.iload_n 2, 1) := by decide +kernel
theorem dX11_pairAt_12 : decode cX11_pairAt 12 = .ok (.iadd, 1) := by decide +kernel
theorem dX11_pairAt_13 : decode cX11_pairAt 13 = .ok (.ireturn, 1) := by decide +kernel
theorem dX11_licenceAt_0 : decode cX11_licenceAt 0 = .ok (.sipush 456, 3) := by decide +kernel
theorem dX11_licenceAt_3 : decode cX11_licenceAt 3 = .ok (.bipush 10, 2) := by decide +kernel
theorem dX11_licenceAt_5 : decode cX11_licenceAt 5 = .ok (.iload_n 0, 1) := by decide +kernel
theorem dX11_licenceAt_6 : decode cX11_licenceAt 6 = .ok (.imul, 1) := by decide +kernel
theorem dX11_licenceAt_7 : decode cX11_licenceAt 7 = .ok (.iadd, 1) := by decide +kernel
theorem dX11_licenceAt_8 : decode cX11_licenceAt 8 = .ok (.iload_n 1, 1) := by decide +kernel
theorem dX11_licenceAt_9 : decode cX11_licenceAt 9 = .ok (.iadd, 1) := by decide +kernel
theorem dX11_licenceAt_10 : decode cX11_licenceAt 10 = .ok (.ireturn, 1) := by decide +kernel
theorem dX11_many_0 : decode cX11_many 0 = .ok (.aload_n 0, 1) := by decide +kernel
theorem dX11_many_1 : decode cX11_many 1 = .ok (.getfield 9, 3) := by decide +kernel
theorem dX11_many_4 : decode cX11_many 4 = .ok (.iload_n 1, 1) := by decide +kernel
theorem dX11_many_5 : decode cX11_many 5 = .ok (.laload, 1) := by decide +kernel
theorem dX11_many_6 : decode cX11_many 6 = .ok (.l2i, 1) := by decide +kernel
theorem dX11_many_7 : decode cX11_many 7 = .ok (.ireturn, 1) := by decide +kernel
theorem dX11_ofOrigin_0 : decode cX11_ofOrigin 0 = .ok (.aload_n 0, 1) := by decide +kernel
theorem dX11_ofOrigin_1 : decode cX11_ofOrigin 1 = .ok (.getfield 9, 3) := by decide +kernel
theorem dX11_ofOrigin_4 : decode cX11_ofOrigin 4 = .ok (.iload_n 1, 1) := by decide +kernel
theorem dX11_ofOrigin_5 : decode cX11_ofOrigin 5 = .ok (.iload_n 2, 1) := by decide +kernel
theorem dX11_ofOrigin_6 : decode cX11_ofOrigin 6 = .ok (.invokestatic 40, 3) := by decide +kernel
theorem dX11_ofOrigin_9 : decode cX11_ofOrigin 9 = .ok (.laload, 1) := by decide +kernel
theorem dX11_ofOrigin_10 : decode cX11_ofOrigin 10 = .ok (.l2i, 1) := by decide +kernel
theorem dX11_ofOrigin_11 : decode cX11_ofOrigin 11 = .ok (.ireturn, 1) := by decide +kernel
theorem dX11_ofPair_0 : decode cX11_ofPair 0 = .ok (.aload_n 0, 1) := by decide +kernel
theorem dX11_ofPair_1 : decode cX11_ofPair 1 = .ok (.getfield 9, 3) := by decide +kernel
theorem dX11_ofPair_4 : decode cX11_ofPair 4 = .ok (.iload_n 1, 1) := by decide +kernel
theorem dX11_ofPair_5 : decode cX11_ofPair 5 = .ok (.iload_n 2, 1) := by decide +kernel
theorem dX11_ofPair_6 : decode cX11_ofPair 6 = .ok (.iload_n 3, 1) := by decide +kernel
theorem dX11_ofPair_7 : decode cX11_ofPair 7 = .ok (.invokestatic 44, 3) := by decide +kernel
theorem dX11_ofPair_10 : decode cX11_ofPair 10 = .ok (.laload, 1) := by decide +kernel
theorem dX11_ofPair_11 : decode cX11_ofPair 11 = .ok (.l2i, 1) := by decide +kernel
theorem dX11_ofPair_12 : decode cX11_ofPair 12 = .ok (.ireturn, 1) := by decide +kernel
theorem dX11_ofLicence_0 : decode cX11_ofLicence 0 = .ok (.aload_n 0, 1) := by decide +kernel
theorem dX11_ofLicence_1 : decode cX11_ofLicence 1 = .ok (.getfield 9, 3) := by decide +kernel
theorem dX11_ofLicence_4 : decode cX11_ofLicence 4 = .ok (.iload_n 1, 1) := by decide +kernel
theorem dX11_ofLicence_5 : decode cX11_ofLicence 5 = .ok (.iload_n 2, 1) := by decide +kernel
theorem dX11_ofLicence_6 : decode cX11_ofLicence 6 = .ok (.invokestatic 48, 3) := by decide +kernel
theorem dX11_ofLicence_9 : decode cX11_ofLicence 9 = .ok (.laload, 1) := by decide +kernel
theorem dX11_ofLicence_10 : decode cX11_ofLicence 10 = .ok (.l2i, 1) := by decide +kernel
theorem dX11_ofLicence_11 : decode cX11_ofLicence 11 = .ok (.ireturn, 1) := by decide +kernel
theorem dX11_hasScheme_0 : decode cX11_hasScheme 0 = .ok (.aload_n 0, 1) := by decide +kernel
theorem dX11_hasScheme_1 : decode cX11_hasScheme 1 = .ok (.getfield 9, 3) := by decide +kernel
theorem dX11_hasScheme_4 : decode cX11_hasScheme 4 = .ok (.bipush 6, 2) := by decide +kernel
theorem dX11_hasScheme_6 : decode cX11_hasScheme 6 = .ok (.laload, 1) := by decide +kernel
theorem dX11_hasScheme_7 : decode cX11_hasScheme 7 = .ok (.lconst 0, 1) := by decide +kernel
theorem dX11_hasScheme_8 : decode cX11_hasScheme 8 = .ok (.lcmp, 1) := by decide +kernel
theorem dX11_hasScheme_9 : decode cX11_hasScheme 9 = .ok (.ifCond .le 7, 3) := by decide +kernel
theorem dX11_hasScheme_12 : decode cX11_hasScheme 12 = .ok (.iconst 1, 1) := by decide +kernel
theorem dX11_hasScheme_13 : decode cX11_hasScheme 13 = .ok (.goto 4, 3) := by decide +kernel
theorem dX11_hasScheme_16 : decode cX11_hasScheme 16 = .ok (.iconst 0, 1) := by decide +kernel
theorem dX11_hasScheme_17 : decode cX11_hasScheme 17 = .ok (.ireturn, 1) := by decide +kernel
theorem dX11_isOrigin_0 : decode cX11_isOrigin 0 = .ok (.iload_n 1, 1) := by decide +kernel
theorem dX11_isOrigin_1 : decode cX11_isOrigin 1 = .ok (.i2l, 1) := by decide +kernel
theorem dX11_isOrigin_2 : decode cX11_isOrigin 2 = .ok (.lconst 0, 1) := by decide +kernel
theorem dX11_isOrigin_3 : decode cX11_isOrigin 3 = .ok (.aload_n 0, 1) := by decide +kernel
theorem dX11_isOrigin_4 : decode cX11_isOrigin 4 = .ok (.getfield 9, 3) := by decide +kernel
theorem dX11_isOrigin_7 : decode cX11_isOrigin 7 = .ok (.bipush 6, 2) := by decide +kernel
theorem dX11_isOrigin_9 : decode cX11_isOrigin 9 = .ok (.laload, 1) := by decide +kernel
theorem dX11_isOrigin_10 : decode cX11_isOrigin 10 = .ok (.lconst 1, 1) := by decide +kernel
theorem dX11_isOrigin_11 : decode cX11_isOrigin 11 = .ok (.lsub, 1) := by decide +kernel
theorem dX11_isOrigin_12 : decode cX11_isOrigin 12 = .ok (.invokestatic 51, 3) := by decide +kernel
theorem dX11_isOrigin_15 : decode cX11_isOrigin 15 = .ok (.ireturn, 1) := by decide +kernel
theorem dX11_isImporter_0 : decode cX11_isImporter 0 = .ok (.iload_n 1, 1) := by decide +kernel
theorem dX11_isImporter_1 : decode cX11_isImporter 1 = .ok (.i2l, 1) := by decide +kernel
theorem dX11_isImporter_2 : decode cX11_isImporter 2 = .ok (.lconst 0, 1) := by decide +kernel
theorem dX11_isImporter_3 : decode cX11_isImporter 3 = .ok (.aload_n 0, 1) := by decide +kernel
theorem dX11_isImporter_4 : decode cX11_isImporter 4 = .ok (.getfield 9, 3) := by decide +kernel
theorem dX11_isImporter_7 : decode cX11_isImporter 7 = .ok (.bipush 7, 2) := by decide +kernel
theorem dX11_isImporter_9 : decode cX11_isImporter 9 = .ok (.laload, 1) := by decide +kernel
theorem dX11_isImporter_10 : decode cX11_isImporter 10 = .ok (.lconst 1, 1) := by decide +kernel
theorem dX11_isImporter_11 : decode cX11_isImporter 11 = .ok (.lsub, 1) := by decide +kernel
theorem dX11_isImporter_12 : decode cX11_isImporter 12 = .ok (.invokestatic 51, 3) := by decide +kernel
theorem dX11_isImporter_15 : decode cX11_isImporter 15 = .ok (.ireturn, 1) := by decide +kernel
theorem dX11_isLicence_0 : decode cX11_isLicence 0 = .ok (.iload_n 1, 1) := by decide +kernel
theorem dX11_isLicence_1 : decode cX11_isLicence 1 = .ok (.i2l, 1) := by decide +kernel
theorem dX11_isLicence_2 : decode cX11_isLicence 2 = .ok (.lconst 0, 1) := by decide +kernel
theorem dX11_isLicence_3 : decode cX11_isLicence 3 = .ok (.aload_n 0, 1) := by decide +kernel
theorem dX11_isLicence_4 : decode cX11_isLicence 4 = .ok (.getfield 9, 3) := by decide +kernel
theorem dX11_isLicence_7 : decode cX11_isLicence 7 = .ok (.bipush 8, 2) := by decide +kernel
theorem dX11_isLicence_9 : decode cX11_isLicence 9 = .ok (.laload, 1) := by decide +kernel
theorem dX11_isLicence_10 : decode cX11_isLicence 10 = .ok (.lconst 1, 1) := by decide +kernel
theorem dX11_isLicence_11 : decode cX11_isLicence 11 = .ok (.lsub, 1) := by decide +kernel
theorem dX11_isLicence_12 : decode cX11_isLicence 12 = .ok (.invokestatic 51, 3) := by decide +kernel
theorem dX11_isLicence_15 : decode cX11_isLicence 15 = .ok (.ireturn, 1) := by decide +kernel
theorem dX11_arePair_0 : decode cX11_arePair 0 = .ok (.aload_n 0, 1) := by decide +kernel
theorem dX11_arePair_1 : decode cX11_arePair 1 = .ok (.iload_n 1, 1) := by decide +kernel
theorem dX11_arePair_2 : decode cX11_arePair 2 = .ok (.invokevirtual 55, 3) := by decide +kernel
theorem dX11_arePair_5 : decode cX11_arePair 5 = .ok (.ifCond .eq 15, 3) := by decide +kernel
theorem dX11_arePair_8 : decode cX11_arePair 8 = .ok (.aload_n 0, 1) := by decide +kernel
theorem dX11_arePair_9 : decode cX11_arePair 9 = .ok (.iload_n 2, 1) := by decide +kernel
theorem dX11_arePair_10 : decode cX11_arePair 10 = .ok (.invokevirtual 59, 3) := by decide +kernel
theorem dX11_arePair_13 : decode cX11_arePair 13 = .ok (.ifCond .eq 7, 3) := by decide +kernel
theorem dX11_arePair_16 : decode cX11_arePair 16 = .ok (.iconst 1, 1) := by decide +kernel
theorem dX11_arePair_17 : decode cX11_arePair 17 = .ok (.goto 4, 3) := by decide +kernel
theorem dX11_arePair_20 : decode cX11_arePair 20 = .ok (.iconst 0, 1) := by decide +kernel
theorem dX11_arePair_21 : decode cX11_arePair 21 = .ok (.ireturn, 1) := by decide +kernel
theorem dX11_isMuch_0 : decode cX11_isMuch 0 = .ok (.iload_n 0, 1) := by decide +kernel
theorem dX11_isMuch_1 : decode cX11_isMuch 1 = .ok (.i2l, 1) := by decide +kernel
theorem dX11_isMuch_2 : decode cX11_isMuch 2 = .ok (.lconst 1, 1) := by decide +kernel
theorem dX11_isMuch_3 : decode cX11_isMuch 3 = .ok (.ldc2_w 62, 3) := by decide +kernel
theorem dX11_isMuch_6 : decode cX11_isMuch 6 = .ok (.invokestatic 51, 3) := by decide +kernel
theorem dX11_isMuch_9 : decode cX11_isMuch 9 = .ok (.ireturn, 1) := by decide +kernel
theorem dX11_feed_0 : decode cX11_feed 0 = .ok (.aload_n 0, 1) := by decide +kernel
theorem dX11_feed_1 : decode cX11_feed 1 = .ok (.getfield 64, 3) := by decide +kernel
theorem dX11_feed_4 : decode cX11_feed 4 = .ok (.bipush 20, 2) := by decide +kernel
theorem dX11_feed_6 : decode cX11_feed 6 = .ok (.iadd, 1) := by decide +kernel
theorem dX11_feed_7 : decode cX11_feed 7 = .ok (.sipush 400, 3) := by decide +kernel
theorem dX11_feed_10 : decode cX11_feed 10 = .ok (.if_icmp .le 5, 3) := by decide +kernel
theorem dX11_feed_13 : decode cX11_feed 13 = .ok (.iconst (-1), 1) := by decide +kernel
theorem dX11_feed_14 : decode cX11_feed 14 = .ok (.ireturn, 1) := by decide +kernel
theorem dX11_feed_15 : decode cX11_feed 15 = .ok (.aload_n 0, 1) := by decide +kernel
theorem dX11_feed_16 : decode cX11_feed 16 = .ok (.iload_n 1, 1) := by decide +kernel
theorem dX11_feed_17 : decode cX11_feed 17 = .ok (.invokevirtual 67, 3) := by decide +kernel
theorem dX11_feed_20 : decode cX11_feed 20 = .ok (.aload_n 0, 1) := by decide +kernel
theorem dX11_feed_21 : decode cX11_feed 21 = .ok (.iload_n 2, 1) := by decide +kernel
theorem dX11_feed_22 : decode cX11_feed 22 = .ok (.invokevirtual 67, 3) := by decide +kernel
theorem dX11_feed_25 : decode cX11_feed 25 = .ok (.aload_n 0, 1) := by decide +kernel
theorem dX11_feed_26 : decode cX11_feed 26 = .ok (.iload_n 3, 1) := by decide +kernel
theorem dX11_feed_27 : decode cX11_feed 27 = .ok (.invokevirtual 67, 3) := by decide +kernel
theorem dX11_feed_30 : decode cX11_feed 30 = .ok (.aload_n 0, 1) := by decide +kernel
theorem dX11_feed_31 : decode cX11_feed 31 = .ok (.iload 4, 2) := by decide +kernel
theorem dX11_feed_33 : decode cX11_feed 33 = .ok (.invokevirtual 67, 3) := by decide +kernel
theorem dX11_feed_36 : decode cX11_feed 36 = .ok (.aload_n 0, 1) := by decide +kernel
theorem dX11_feed_37 : decode cX11_feed 37 = .ok (.iload 5, 2) := by decide +kernel
theorem dX11_feed_39 : decode cX11_feed 39 = .ok (.invokevirtual 67, 3) := by decide +kernel
theorem dX11_feed_42 : decode cX11_feed 42 = .ok (.aload_n 0, 1) := by decide +kernel
theorem dX11_feed_43 : decode cX11_feed 43 = .ok (.getfield 64, 3) := by decide +kernel
theorem dX11_feed_46 : decode cX11_feed 46 = .ok (.ireturn, 1) := by decide +kernel
theorem dX11_puts_0 : decode cX11_puts 0 = .ok (.bipush 24, 2) := by decide +kernel
theorem dX11_puts_2 : decode cX11_puts 2 = .ok (.istore_n 2, 1) := by decide +kernel
theorem dX11_puts_3 : decode cX11_puts 3 = .ok (.iload_n 2, 1) := by decide +kernel
theorem dX11_puts_4 : decode cX11_puts 4 = .ok (.ifCond .lt 32, 3) := by decide +kernel
theorem dX11_puts_7 : decode cX11_puts 7 = .ok (.aload_n 0, 1) := by decide +kernel
theorem dX11_puts_8 : decode cX11_puts 8 = .ok (.getfield 29, 3) := by decide +kernel
theorem dX11_puts_11 : decode cX11_puts 11 = .ok (.aload_n 0, 1) := by decide +kernel
theorem dX11_puts_12 : decode cX11_puts 12 = .ok (.getfield 64, 3) := by decide +kernel
theorem dX11_puts_15 : decode cX11_puts 15 = .ok (.iload_n 1, 1) := by decide +kernel
theorem dX11_puts_16 : decode cX11_puts 16 = .ok (.iload_n 2, 1) := by decide +kernel
theorem dX11_puts_17 : decode cX11_puts 17 = .ok (.ishr, 1) := by decide +kernel
theorem dX11_puts_18 : decode cX11_puts 18 = .ok (.i2b, 1) := by decide +kernel
theorem dX11_puts_19 : decode cX11_puts 19 = .ok (.bastore, 1) := by decide +kernel
theorem dX11_puts_20 : decode cX11_puts 20 = .ok (.aload_n 0, 1) := by decide +kernel
theorem dX11_puts_21 : decode cX11_puts 21 = .ok (.dup, 1) := by decide +kernel
theorem dX11_puts_22 : decode cX11_puts 22 = .ok (.getfield 64, 3) := by decide +kernel
theorem dX11_puts_25 : decode cX11_puts 25 = .ok (.iconst 1, 1) := by decide +kernel
theorem dX11_puts_26 : decode cX11_puts 26 = .ok (.iadd, 1) := by decide +kernel
theorem dX11_puts_27 : decode cX11_puts 27 = .ok (.putfield 64, 3) := by decide +kernel
theorem dX11_puts_30 : decode cX11_puts 30 = .ok (.iinc 2 (-8), 3) := by decide +kernel
theorem dX11_puts_33 : decode cX11_puts 33 = .ok (.goto (-30), 3) := by decide +kernel
theorem dX11_puts_36 : decode cX11_puts 36 = .ok (.return_, 1) := by decide +kernel
theorem dX11_end_0 : decode cX11_end 0 = .ok (.iload_n 1, 1) := by decide +kernel
theorem dX11_end_1 : decode cX11_end 1 = .ok (.ifCond .lt 11, 3) := by decide +kernel
theorem dX11_end_4 : decode cX11_end 4 = .ok (.iload_n 1, 1) := by decide +kernel
theorem dX11_end_5 : decode cX11_end 5 = .ok (.aload_n 0, 1) := by decide +kernel
theorem dX11_end_6 : decode cX11_end 6 = .ok (.getfield 64, 3) := by decide +kernel
theorem dX11_end_9 : decode cX11_end 9 = .ok (.if_icmp .le 5, 3) := by decide +kernel
theorem dX11_end_12 : decode cX11_end 12 = .ok (.iconst (-1), 1) := by decide +kernel
theorem dX11_end_13 : decode cX11_end 13 = .ok (.ireturn, 1) := by decide +kernel
theorem dX11_end_14 : decode cX11_end 14 = .ok (.aload_n 0, 1) := by decide +kernel
theorem dX11_end_15 : decode cX11_end 15 = .ok (.iload_n 1, 1) := by decide +kernel
theorem dX11_end_16 : decode cX11_end 16 = .ok (.putfield 64, 3) := by decide +kernel
theorem dX11_end_19 : decode cX11_end 19 = .ok (.iload_n 1, 1) := by decide +kernel
theorem dX11_end_20 : decode cX11_end 20 = .ok (.ireturn, 1) := by decide +kernel
theorem dX11_sign_0 : decode cX11_sign 0 = .ok (.aload_n 0, 1) := by decide +kernel
theorem dX11_sign_1 : decode cX11_sign 1 = .ok (.getfield 71, 3) := by decide +kernel
theorem dX11_sign_4 : decode cX11_sign 4 = .ok (.aload_n 0, 1) := by decide +kernel
theorem dX11_sign_5 : decode cX11_sign 5 = .ok (.getfield 64, 3) := by decide +kernel
theorem dX11_sign_8 : decode cX11_sign 8 = .ok (.if_icmp .ge 19, 3) := by decide +kernel
theorem dX11_sign_11 : decode cX11_sign 11 = .ok (.aload_n 0, 1) := by decide +kernel
theorem dX11_sign_12 : decode cX11_sign 12 = .ok (.getfield 29, 3) := by decide +kernel
theorem dX11_sign_15 : decode cX11_sign 15 = .ok (.aload_n 0, 1) := by decide +kernel
theorem dX11_sign_16 : decode cX11_sign 16 = .ok (.getfield 71, 3) := by decide +kernel
theorem dX11_sign_19 : decode cX11_sign 19 = .ok (.baload, 1) := by decide +kernel
theorem dX11_sign_20 : decode cX11_sign 20 = .ok (.sipush 255, 3) := by decide +kernel
theorem dX11_sign_23 : decode cX11_sign 23 = .ok (.iand, 1) := by decide +kernel
theorem dX11_sign_24 : decode cX11_sign 24 = .ok (.goto 4, 3) := by decide +kernel
theorem dX11_sign_27 : decode cX11_sign 27 = .ok (.iconst (-1), 1) := by decide +kernel
theorem dX11_sign_28 : decode cX11_sign 28 = .ok (.ireturn, 1) := by decide +kernel
theorem dX11_next_0 : decode cX11_next 0 = .ok (.aload_n 0, 1) := by decide +kernel
theorem dX11_next_1 : decode cX11_next 1 = .ok (.invokevirtual 74, 3) := by decide +kernel
theorem dX11_next_4 : decode cX11_next 4 = .ok (.bipush 32, 2) := by decide +kernel
theorem dX11_next_6 : decode cX11_next 6 = .ok (.if_icmp .ne 16, 3) := by decide +kernel
theorem dX11_next_9 : decode cX11_next 9 = .ok (.aload_n 0, 1) := by decide +kernel
theorem dX11_next_10 : decode cX11_next 10 = .ok (.dup, 1) := by decide +kernel
theorem dX11_next_11 : decode cX11_next 11 = .ok (.getfield 71, 3) := by decide +kernel
theorem dX11_next_14 : decode cX11_next 14 = .ok (.iconst 1, 1) := by decide +kernel
theorem dX11_next_15 : decode cX11_next 15 = .ok (.iadd, 1) := by decide +kernel
theorem dX11_next_16 : decode cX11_next 16 = .ok (.putfield 71, 3) := by decide +kernel
theorem dX11_next_19 : decode cX11_next 19 = .ok (.goto (-19), 3) := by decide +kernel
theorem dX11_next_22 : decode cX11_next 22 = .ok (.aload_n 0, 1) := by decide +kernel
theorem dX11_next_23 : decode cX11_next 23 = .ok (.invokevirtual 74, 3) := by decide +kernel
theorem dX11_next_26 : decode cX11_next 26 = .ok (.ireturn, 1) := by decide +kernel
theorem dX11_isRight_0 : decode cX11_isRight 0 = .ok (.aload_n 0, 1) := by decide +kernel
theorem dX11_isRight_1 : decode cX11_isRight 1 = .ok (.getfield 78, 3) := by decide +kernel
theorem dX11_isRight_4 : decode cX11_isRight 4 = .ok (.iconst (-1), 1) := by decide +kernel
theorem dX11_isRight_5 : decode cX11_isRight 5 = .ok (.if_icmp .ne 7, 3) := by decide +kernel
theorem dX11_isRight_8 : decode cX11_isRight 8 = .ok (.iconst 1, 1) := by decide +kernel
theorem dX11_isRight_9 : decode cX11_isRight 9 = .ok (.goto 4, 3) := by decide +kernel
theorem dX11_isRight_12 : decode cX11_isRight 12 = .ok (.iconst 0, 1) := by decide +kernel
theorem dX11_isRight_13 : decode cX11_isRight 13 = .ok (.ireturn, 1) := by decide +kernel
theorem dX11_fails_0 : decode cX11_fails 0 = .ok (.aload_n 0, 1) := by decide +kernel
theorem dX11_fails_1 : decode cX11_fails 1 = .ok (.invokevirtual 81, 3) := by decide +kernel
theorem dX11_fails_4 : decode cX11_fails 4 = .ok (.ifCond .eq 13, 3) := by decide +kernel
theorem dX11_fails_7 : decode cX11_fails 7 = .ok (.aload_n 0, 1) := by decide +kernel
theorem dX11_fails_8 : decode cX11_fails 8 = .ok (.bipush 8, 2) := by decide +kernel
theorem dX11_fails_10 : decode cX11_fails 10 = .ok (.iload_n 2, 1) := by decide +kernel
theorem dX11_fails_11 : decode cX11_fails 11 = .ok (.imul, 1) := by decide +kernel
theorem dX11_fails_12 : decode cX11_fails 12 = .ok (.iload_n 1, 1) := by decide +kernel
theorem dX11_fails_13 : decode cX11_fails 13 = .ok (.iadd, 1) := by decide +kernel
theorem dX11_fails_14 : decode cX11_fails 14 = .ok (.putfield 78, 3) := by decide +kernel
theorem dX11_fails_17 : decode cX11_fails 17 = .ok (.return_, 1) := by decide +kernel
theorem dX11_isWord_0 : decode cX11_isWord 0 = .ok (.aload_n 0, 1) := by decide +kernel
theorem dX11_isWord_1 : decode cX11_isWord 1 = .ok (.invokevirtual 85, 3) := by decide +kernel
theorem dX11_isWord_4 : decode cX11_isWord 4 = .ok (.pop, 1) := by decide +kernel
theorem dX11_isWord_5 : decode cX11_isWord 5 = .ok (.iconst 0, 1) := by decide +kernel
theorem dX11_isWord_6 : decode cX11_isWord 6 = .ok (.istore_n 2, 1) := by decide +kernel
theorem dX11_isWord_7 : decode cX11_isWord 7 = .ok (.aload_n 0, 1) := by decide +kernel
theorem dX11_isWord_8 : decode cX11_isWord 8 = .ok (.getfield 71, 3) := by decide +kernel
theorem dX11_isWord_11 : decode cX11_isWord 11 = .ok (.iload_n 2, 1) := by decide +kernel
theorem dX11_isWord_12 : decode cX11_isWord 12 = .ok (.iadd, 1) := by decide +kernel
theorem dX11_isWord_13 : decode cX11_isWord 13 = .ok (.aload_n 0, 1) := by decide +kernel
theorem dX11_isWord_14 : decode cX11_isWord 14 = .ok (.getfield 64, 3) := by decide +kernel
theorem dX11_isWord_17 : decode cX11_isWord 17 = .ok (.if_icmp .ge 33, 3) := by decide +kernel
theorem dX11_isWord_20 : decode cX11_isWord 20 = .ok (.aload_n 0, 1) := by decide +kernel
theorem dX11_isWord_21 : decode cX11_isWord 21 = .ok (.getfield 29, 3) := by decide +kernel
theorem dX11_isWord_24 : decode cX11_isWord 24 = .ok (.aload_n 0, 1) := by decide +kernel
theorem dX11_isWord_25 : decode cX11_isWord 25 = .ok (.getfield 71, 3) := by decide +kernel
theorem dX11_isWord_28 : decode cX11_isWord 28 = .ok (.iload_n 2, 1) := by decide +kernel
theorem dX11_isWord_29 : decode cX11_isWord 29 = .ok (.iadd, 1) := by decide +kernel
theorem dX11_isWord_30 : decode cX11_isWord 30 = .ok (.baload, 1) := by decide +kernel
theorem dX11_isWord_31 : decode cX11_isWord 31 = .ok (.i2l, 1) := by decide +kernel
theorem dX11_isWord_32 : decode cX11_isWord 32 = .ok (.ldc2_w 88, 3) := by decide +kernel
theorem dX11_isWord_35 : decode cX11_isWord 35 = .ok (.ldc2_w 90, 3) := by decide +kernel
theorem dX11_isWord_38 : decode cX11_isWord 38 = .ok (.invokestatic 51, 3) := by decide +kernel
theorem dX11_isWord_41 : decode cX11_isWord 41 = .ok (.ifCond .eq 9, 3) := by decide +kernel
theorem dX11_isWord_44 : decode cX11_isWord 44 = .ok (.iinc 2 1, 3) := by decide +kernel
theorem dX11_isWord_47 : decode cX11_isWord 47 = .ok (.goto (-40), 3) := by decide +kernel
theorem dX11_isWord_50 : decode cX11_isWord 50 = .ok (.iload_n 2, 1) := by decide +kernel
theorem dX11_isWord_51 : decode cX11_isWord 51 = .ok (.aload_n 1, 1) := by decide +kernel
theorem dX11_isWord_52 : decode cX11_isWord 52 = .ok (.invokevirtual 92, 3) := by decide +kernel
theorem dX11_isWord_55 : decode cX11_isWord 55 = .ok (.if_icmp .ne 7, 3) := by decide +kernel
theorem dX11_isWord_58 : decode cX11_isWord 58 = .ok (.iconst 1, 1) := by decide +kernel
theorem dX11_isWord_59 : decode cX11_isWord 59 = .ok (.goto 4, 3) := by decide +kernel
theorem dX11_isWord_62 : decode cX11_isWord 62 = .ok (.iconst 0, 1) := by decide +kernel
theorem dX11_isWord_63 : decode cX11_isWord 63 = .ok (.istore_n 3, 1) := by decide +kernel
theorem dX11_isWord_64 : decode cX11_isWord 64 = .ok (.iconst 0, 1) := by decide +kernel
theorem dX11_isWord_65 : decode cX11_isWord 65 = .ok (.istore 4, 2) := by decide +kernel
theorem dX11_isWord_67 : decode cX11_isWord 67 = .ok (.iload 4, 2) := by decide +kernel
theorem dX11_isWord_69 : decode cX11_isWord 69 = .ok (.iload_n 2, 1) := by decide +kernel
theorem dX11_isWord_70 : decode cX11_isWord 70 = .ok (.if_icmp .ge 40, 3) := by decide +kernel
theorem dX11_isWord_73 : decode cX11_isWord 73 = .ok (.iload_n 3, 1) := by decide +kernel
theorem dX11_isWord_74 : decode cX11_isWord 74 = .ok (.ifCond .eq 36, 3) := by decide +kernel
theorem dX11_isWord_77 : decode cX11_isWord 77 = .ok (.aload_n 0, 1) := by decide +kernel
theorem dX11_isWord_78 : decode cX11_isWord 78 = .ok (.getfield 29, 3) := by decide +kernel
theorem dX11_isWord_81 : decode cX11_isWord 81 = .ok (.aload_n 0, 1) := by decide +kernel
theorem dX11_isWord_82 : decode cX11_isWord 82 = .ok (.getfield 71, 3) := by decide +kernel
theorem dX11_isWord_85 : decode cX11_isWord 85 = .ok (.iload 4, 2) := by decide +kernel
theorem dX11_isWord_87 : decode cX11_isWord 87 = .ok (.iadd, 1) := by decide +kernel
theorem dX11_isWord_88 : decode cX11_isWord 88 = .ok (.baload, 1) := by decide +kernel
theorem dX11_isWord_89 : decode cX11_isWord 89 = .ok (.aload_n 1, 1) := by decide +kernel
theorem dX11_isWord_90 : decode cX11_isWord 90 = .ok (.iload 4, 2) := by decide +kernel
theorem dX11_isWord_92 : decode cX11_isWord 92 = .ok (.invokevirtual 97, 3) := by decide +kernel
theorem dX11_isWord_95 : decode cX11_isWord 95 = .ok (.if_icmp .ne 7, 3) := by decide +kernel
theorem dX11_isWord_98 : decode cX11_isWord 98 = .ok (.iconst 1, 1) := by decide +kernel
theorem dX11_isWord_99 : decode cX11_isWord 99 = .ok (.goto 4, 3) := by decide +kernel
theorem dX11_isWord_102 : decode cX11_isWord 102 = .ok (.iconst 0, 1) := by decide +kernel
theorem dX11_isWord_103 : decode cX11_isWord 103 = .ok (.istore_n 3, 1) := by decide +kernel
theorem dX11_isWord_104 : decode cX11_isWord 104 = .ok (.iinc 4 1, 3) := by decide +kernel
theorem dX11_isWord_107 : decode cX11_isWord 107 = .ok (.goto (-40), 3) := by decide +kernel
theorem dX11_isWord_110 : decode cX11_isWord 110 = .ok (.iload_n 3, 1) := by decide +kernel
theorem dX11_isWord_111 : decode cX11_isWord 111 = .ok (.ireturn, 1) := by decide +kernel
theorem dX11_takes_0 : decode cX11_takes 0 = .ok (.aload_n 0, 1) := by decide +kernel
theorem dX11_takes_1 : decode cX11_takes 1 = .ok (.aload_n 1, 1) := by decide +kernel
theorem dX11_takes_2 : decode cX11_takes 2 = .ok (.invokevirtual 101, 3) := by decide +kernel
theorem dX11_takes_5 : decode cX11_takes 5 = .ok (.ifCond .ne 5, 3) := by decide +kernel
theorem dX11_takes_8 : decode cX11_takes 8 = .ok (.iconst 0, 1) := by decide +kernel
theorem dX11_takes_9 : decode cX11_takes 9 = .ok (.ireturn, 1) := by decide +kernel
theorem dX11_takes_10 : decode cX11_takes 10 = .ok (.aload_n 0, 1) := by decide +kernel
theorem dX11_takes_11 : decode cX11_takes 11 = .ok (.dup, 1) := by decide +kernel
theorem dX11_takes_12 : decode cX11_takes 12 = .ok (.getfield 71, 3) := by decide +kernel
theorem dX11_takes_15 : decode cX11_takes 15 = .ok (.aload_n 1, 1) := by decide +kernel
theorem dX11_takes_16 : decode cX11_takes 16 = .ok (.invokevirtual 92, 3) := by decide +kernel
theorem dX11_takes_19 : decode cX11_takes 19 = .ok (.iadd, 1) := by decide +kernel
theorem dX11_takes_20 : decode cX11_takes 20 = .ok (.putfield 71, 3) := by decide +kernel
theorem dX11_takes_23 : decode cX11_takes 23 = .ok (.iconst 1, 1) := by decide +kernel
theorem dX11_takes_24 : decode cX11_takes 24 = .ok (.ireturn, 1) := by decide +kernel
theorem dX11_number_0 : decode cX11_number 0 = .ok (.aload_n 0, 1) := by decide +kernel
theorem dX11_number_1 : decode cX11_number 1 = .ok (.invokevirtual 81, 3) := by decide +kernel
theorem dX11_number_4 : decode cX11_number 4 = .ok (.ifCond .eq 20, 3) := by decide +kernel
theorem dX11_number_7 : decode cX11_number 7 = .ok (.aload_n 0, 1) := by decide +kernel
theorem dX11_number_8 : decode cX11_number 8 = .ok (.invokevirtual 85, 3) := by decide +kernel
theorem dX11_number_11 : decode cX11_number 11 = .ok (.i2l, 1) := by decide +kernel
theorem dX11_number_12 : decode cX11_number 12 = .ok (.ldc2_w 105, 3) := by decide +kernel
theorem dX11_number_15 : decode cX11_number 15 = .ok (.ldc2_w 107, 3) := by decide +kernel
theorem dX11_number_18 : decode cX11_number 18 = .ok (.invokestatic 51, 3) := by decide +kernel
theorem dX11_number_21 : decode cX11_number 21 = .ok (.ifCond .ne 14, 3) := by decide +kernel
theorem dX11_number_24 : decode cX11_number 24 = .ok (.aload_n 0, 1) := by decide +kernel
theorem dX11_number_25 : decode cX11_number 25 = .ok (.iconst 1, 1) := by decide +kernel
theorem dX11_number_26 : decode cX11_number 26 = .ok (.aload_n 0, 1) := by decide +kernel
theorem dX11_number_27 : decode cX11_number 27 = .ok (.getfield 71, 3) := by decide +kernel
theorem dX11_number_30 : decode cX11_number 30 = .ok (.invokevirtual 109, 3) := by decide +kernel
theorem dX11_number_33 : decode cX11_number 33 = .ok (.iload_n 1, 1) := by decide +kernel
theorem dX11_number_34 : decode cX11_number 34 = .ok (.ireturn, 1) := by decide +kernel
theorem dX11_number_35 : decode cX11_number 35 = .ok (.aload_n 0, 1) := by decide +kernel
theorem dX11_number_36 : decode cX11_number 36 = .ok (.aload_n 0, 1) := by decide +kernel
theorem dX11_number_37 : decode cX11_number 37 = .ok (.getfield 71, 3) := by decide +kernel
theorem dX11_number_40 : decode cX11_number 40 = .ok (.putfield 113, 3) := by decide +kernel
theorem dX11_number_43 : decode cX11_number 43 = .ok (.iconst 0, 1) := by decide +kernel
theorem dX11_number_44 : decode cX11_number 44 = .ok (.istore_n 3, 1) := by decide +kernel
theorem dX11_number_45 : decode cX11_number 45 = .ok (.aload_n 0, 1) := by decide +kernel
theorem dX11_number_46 : decode cX11_number 46 = .ok (.invokevirtual 74, 3) := by decide +kernel
theorem dX11_number_49 : decode cX11_number 49 = .ok (.i2l, 1) := by decide +kernel
theorem dX11_number_50 : decode cX11_number 50 = .ok (.ldc2_w 105, 3) := by decide +kernel
theorem dX11_number_53 : decode cX11_number 53 = .ok (.ldc2_w 107, 3) := by decide +kernel
theorem dX11_number_56 : decode cX11_number 56 = .ok (.invokestatic 51, 3) := by decide +kernel
theorem dX11_number_59 : decode cX11_number 59 = .ok (.ifCond .eq 34, 3) := by decide +kernel
theorem dX11_number_62 : decode cX11_number 62 = .ok (.ldc 116, 2) := by decide +kernel
theorem dX11_number_64 : decode cX11_number 64 = .ok (.bipush 10, 2) := by decide +kernel
theorem dX11_number_66 : decode cX11_number 66 = .ok (.iload_n 3, 1) := by decide +kernel
theorem dX11_number_67 : decode cX11_number 67 = .ok (.imul, 1) := by decide +kernel
theorem dX11_number_68 : decode cX11_number 68 = .ok (.aload_n 0, 1) := by decide +kernel
theorem dX11_number_69 : decode cX11_number 69 = .ok (.invokevirtual 74, 3) := by decide +kernel
theorem dX11_number_72 : decode cX11_number 72 = .ok (.iadd, 1) := by decide +kernel
theorem dX11_number_73 : decode cX11_number 73 = .ok (.bipush 48, 2) := by decide +kernel
theorem dX11_number_75 : decode cX11_number 75 = .ok (.isub, 1) := by decide +kernel
theorem dX11_number_76 : decode cX11_number 76 = .ok (.invokestatic 117, 3) := by decide +kernel
theorem dX11_number_79 : decode cX11_number 79 = .ok (.istore_n 3, 1) := by decide +kernel
theorem dX11_number_80 : decode cX11_number 80 = .ok (.aload_n 0, 1) := by decide +kernel
theorem dX11_number_81 : decode cX11_number 81 = .ok (.dup, 1) := by decide +kernel
theorem dX11_number_82 : decode cX11_number 82 = .ok (.getfield 71, 3) := by decide +kernel
theorem dX11_number_85 : decode cX11_number 85 = .ok (.iconst 1, 1) := by decide +kernel
theorem dX11_number_86 : decode cX11_number 86 = .ok (.iadd, 1) := by decide +kernel
theorem dX11_number_87 : decode cX11_number 87 = .ok (.putfield 71, 3) := by decide +kernel
theorem dX11_number_90 : decode cX11_number 90 = .ok (.goto (-45), 3) := by decide +kernel
theorem dX11_number_93 : decode cX11_number 93 = .ok (.iload_n 3, 1) := by decide +kernel
theorem dX11_number_94 : decode cX11_number 94 = .ok (.i2l, 1) := by decide +kernel
theorem dX11_number_95 : decode cX11_number 95 = .ok (.iload_n 1, 1) := by decide +kernel
theorem dX11_number_96 : decode cX11_number 96 = .ok (.i2l, 1) := by decide +kernel
theorem dX11_number_97 : decode cX11_number 97 = .ok (.iload_n 2, 1) := by decide +kernel
theorem dX11_number_98 : decode cX11_number 98 = .ok (.i2l, 1) := by decide +kernel
theorem dX11_number_99 : decode cX11_number 99 = .ok (.invokestatic 51, 3) := by decide +kernel
theorem dX11_number_102 : decode cX11_number 102 = .ok (.ifCond .ne 14, 3) := by decide +kernel
theorem dX11_number_105 : decode cX11_number 105 = .ok (.aload_n 0, 1) := by decide +kernel
theorem dX11_number_106 : decode cX11_number 106 = .ok (.iconst 2, 1) := by decide +kernel
theorem dX11_number_107 : decode cX11_number 107 = .ok (.aload_n 0, 1) := by decide +kernel
theorem dX11_number_108 : decode cX11_number 108 = .ok (.getfield 113, 3) := by decide +kernel
theorem dX11_number_111 : decode cX11_number 111 = .ok (.invokevirtual 109, 3) := by decide +kernel
theorem dX11_number_114 : decode cX11_number 114 = .ok (.iload_n 1, 1) := by decide +kernel
theorem dX11_number_115 : decode cX11_number 115 = .ok (.ireturn, 1) := by decide +kernel
theorem dX11_number_116 : decode cX11_number 116 = .ok (.iload_n 3, 1) := by decide +kernel
theorem dX11_number_117 : decode cX11_number 117 = .ok (.ireturn, 1) := by decide +kernel
theorem dX11_lowest_0 : decode cX11_lowest 0 = .ok (.iload_n 0, 1) := by decide +kernel
theorem dX11_lowest_1 : decode cX11_lowest 1 = .ok (.iconst 1, 1) := by decide +kernel
theorem dX11_lowest_2 : decode cX11_lowest 2 = .ok (.if_icmp .eq 13, 3) := by decide +kernel
theorem dX11_lowest_5 : decode cX11_lowest 5 = .ok (.iload_n 0, 1) := by decide +kernel
theorem dX11_lowest_6 : decode cX11_lowest 6 = .ok (.iconst 2, 1) := by decide +kernel
theorem dX11_lowest_7 : decode cX11_lowest 7 = .ok (.if_icmp .eq 8, 3) := by decide +kernel
theorem dX11_lowest_10 : decode cX11_lowest 10 = .ok (.iload_n 0, 1) := by decide +kernel
theorem dX11_lowest_11 : decode cX11_lowest 11 = .ok (.iconst 5, 1) := by decide +kernel
theorem dX11_lowest_12 : decode cX11_lowest 12 = .ok (.if_icmp .ne 7, 3) := by decide +kernel
theorem dX11_lowest_15 : decode cX11_lowest 15 = .ok (.iconst 1, 1) := by decide +kernel
theorem dX11_lowest_16 : decode cX11_lowest 16 = .ok (.goto 4, 3) := by decide +kernel
theorem dX11_lowest_19 : decode cX11_lowest 19 = .ok (.iconst 0, 1) := by decide +kernel
theorem dX11_lowest_20 : decode cX11_lowest 20 = .ok (.invokestatic 122, 3) := by decide +kernel
theorem dX11_lowest_23 : decode cX11_lowest 23 = .ok (.ireturn, 1) := by decide +kernel
theorem dX11_highest_0 : decode cX11_highest 0 = .ok (.iload_n 0, 1) := by decide +kernel
theorem dX11_highest_1 : decode cX11_highest 1 = .ok (.tableswitch 47 1 5 #[35, 38, 47, 41, 45], 35) := by decide +kernel
theorem dX11_highest_36 : decode cX11_highest 36 = .ok (.ldc 126, 2) := by decide +kernel
theorem dX11_highest_38 : decode cX11_highest 38 = .ok (.ireturn, 1) := by decide +kernel
theorem dX11_highest_39 : decode cX11_highest 39 = .ok (.bipush 90, 2) := by decide +kernel
theorem dX11_highest_41 : decode cX11_highest 41 = .ok (.ireturn, 1) := by decide +kernel
theorem dX11_highest_42 : decode cX11_highest 42 = .ok (.sipush 2000, 3) := by decide +kernel
theorem dX11_highest_45 : decode cX11_highest 45 = .ok (.ireturn, 1) := by decide +kernel
theorem dX11_highest_46 : decode cX11_highest 46 = .ok (.iconst 3, 1) := by decide +kernel
theorem dX11_highest_47 : decode cX11_highest 47 = .ok (.ireturn, 1) := by decide +kernel
theorem dX11_highest_48 : decode cX11_highest 48 = .ok (.bipush 100, 2) := by decide +kernel
theorem dX11_highest_50 : decode cX11_highest 50 = .ok (.ireturn, 1) := by decide +kernel
theorem dX11_readsPiece_0 : decode cX11_readsPiece 0 = .ok (.aload_n 0, 1) := by decide +kernel
theorem dX11_readsPiece_1 : decode cX11_readsPiece 1 = .ok (.ldc 127, 2) := by decide +kernel
theorem dX11_readsPiece_3 : decode cX11_readsPiece 3 = .ok (.invokevirtual 101, 3) := by decide +kernel
theorem dX11_readsPiece_6 : decode cX11_readsPiece 6 = .ok (.ifCond .eq 17, 3) := by decide +kernel
theorem dX11_readsPiece_9 : decode cX11_readsPiece 9 = .ok (.aload_n 0, 1) := by decide +kernel
theorem dX11_readsPiece_10 : decode cX11_readsPiece 10 = .ok (.getfield 13, 3) := by decide +kernel
theorem dX11_readsPiece_13 : decode cX11_readsPiece 13 = .ok (.bipush 6, 2) := by decide +kernel
theorem dX11_readsPiece_15 : decode cX11_readsPiece 15 = .ok (.laload, 1) := by decide +kernel
theorem dX11_readsPiece_16 : decode cX11_readsPiece 16 = .ok (.ldc2_w 129, 3) := by decide +kernel
theorem dX11_readsPiece_19 : decode cX11_readsPiece 19 = .ok (.lcmp, 1) := by decide +kernel
theorem dX11_readsPiece_20 : decode cX11_readsPiece 20 = .ok (.ifCond .eq 26, 3) := by decide +kernel
theorem dX11_readsPiece_23 : decode cX11_readsPiece 23 = .ok (.aload_n 0, 1) := by decide +kernel
theorem dX11_readsPiece_24 : decode cX11_readsPiece 24 = .ok (.ldc 131, 2) := by decide +kernel
theorem dX11_readsPiece_26 : decode cX11_readsPiece 26 = .ok (.invokevirtual 101, 3) := by decide +kernel
theorem dX11_readsPiece_29 : decode cX11_readsPiece 29 = .ok (.ifCond .eq 29, 3) := by decide +kernel
theorem dX11_readsPiece_32 : decode cX11_readsPiece 32 = .ok (.aload_n 0, 1) := by decide +kernel
theorem dX11_readsPiece_33 : decode cX11_readsPiece 33 = .ok (.getfield 13, 3) := by decide +kernel
theorem dX11_readsPiece_36 : decode cX11_readsPiece 36 = .ok (.bipush 7, 2) := by decide +kernel
theorem dX11_readsPiece_38 : decode cX11_readsPiece 38 = .ok (.laload, 1) := by decide +kernel
theorem dX11_readsPiece_39 : decode cX11_readsPiece 39 = .ok (.ldc2_w 133, 3) := by decide +kernel
theorem dX11_readsPiece_42 : decode cX11_readsPiece 42 = .ok (.lcmp, 1) := by decide +kernel
theorem dX11_readsPiece_43 : decode cX11_readsPiece 43 = .ok (.ifCond .ne 15, 3) := by decide +kernel
theorem dX11_readsPiece_46 : decode cX11_readsPiece 46 = .ok (.aload_n 0, 1) := by decide +kernel
theorem dX11_readsPiece_47 : decode cX11_readsPiece 47 = .ok (.iconst 3, 1) := by decide +kernel
theorem dX11_readsPiece_48 : decode cX11_readsPiece 48 = .ok (.aload_n 0, 1) := by decide +kernel
theorem dX11_readsPiece_49 : decode cX11_readsPiece 49 = .ok (.getfield 71, 3) := by decide +kernel
theorem dX11_readsPiece_52 : decode cX11_readsPiece 52 = .ok (.invokevirtual 109, 3) := by decide +kernel
theorem dX11_readsPiece_55 : decode cX11_readsPiece 55 = .ok (.goto 210, 3) := by decide +kernel
theorem dX11_readsPiece_58 : decode cX11_readsPiece 58 = .ok (.aload_n 0, 1) := by decide +kernel
theorem dX11_readsPiece_59 : decode cX11_readsPiece 59 = .ok (.ldc 127, 2) := by decide +kernel
theorem dX11_readsPiece_61 : decode cX11_readsPiece 61 = .ok (.invokevirtual 135, 3) := by decide +kernel
theorem dX11_readsPiece_64 : decode cX11_readsPiece 64 = .ok (.ifCond .eq 51, 3) := by decide +kernel
theorem dX11_readsPiece_67 : decode cX11_readsPiece 67 = .ok (.aload_n 0, 1) := by decide +kernel
theorem dX11_readsPiece_68 : decode cX11_readsPiece 68 = .ok (.iconst 0, 1) := by decide +kernel
theorem dX11_readsPiece_69 : decode cX11_readsPiece 69 = .ok (.ldc 126, 2) := by decide +kernel
theorem dX11_readsPiece_71 : decode cX11_readsPiece 71 = .ok (.invokevirtual 138, 3) := by decide +kernel
theorem dX11_readsPiece_74 : decode cX11_readsPiece 74 = .ok (.istore_n 1, 1) := by decide +kernel
theorem dX11_readsPiece_75 : decode cX11_readsPiece 75 = .ok (.aload_n 0, 1) := by decide +kernel
theorem dX11_readsPiece_76 : decode cX11_readsPiece 76 = .ok (.invokevirtual 81, 3) := by decide +kernel
theorem dX11_readsPiece_79 : decode cX11_readsPiece 79 = .ok (.ifCond .eq 33, 3) := by decide +kernel
theorem dX11_readsPiece_82 : decode cX11_readsPiece 82 = .ok (.aload_n 0, 1) := by decide +kernel
theorem dX11_readsPiece_83 : decode cX11_readsPiece 83 = .ok (.getfield 13, 3) := by decide +kernel
theorem dX11_readsPiece_86 : decode cX11_readsPiece 86 = .ok (.aload_n 0, 1) := by decide +kernel
theorem dX11_readsPiece_87 : decode cX11_readsPiece 87 = .ok (.getfield 13, 3) := by decide +kernel
theorem dX11_readsPiece_90 : decode cX11_readsPiece 90 = .ok (.bipush 6, 2) := by decide +kernel
theorem dX11_readsPiece_92 : decode cX11_readsPiece 92 = .ok (.laload, 1) := by decide +kernel
theorem dX11_readsPiece_93 : decode cX11_readsPiece 93 = .ok (.l2i, 1) := by decide +kernel
theorem dX11_readsPiece_94 : decode cX11_readsPiece 94 = .ok (.iconst 0, 1) := by decide +kernel
theorem dX11_readsPiece_95 : decode cX11_readsPiece 95 = .ok (.invokestatic 40, 3) := by decide +kernel
theorem dX11_readsPiece_98 : decode cX11_readsPiece 98 = .ok (.iload_n 1, 1) := by decide +kernel
theorem dX11_readsPiece_99 : decode cX11_readsPiece 99 = .ok (.i2l, 1) := by decide +kernel
theorem dX11_readsPiece_100 : decode cX11_readsPiece 100 = .ok (.lastore, 1) := by decide +kernel
theorem dX11_readsPiece_101 : decode cX11_readsPiece 101 = .ok (.aload_n 0, 1) := by decide +kernel
theorem dX11_readsPiece_102 : decode cX11_readsPiece 102 = .ok (.getfield 13, 3) := by decide +kernel
theorem dX11_readsPiece_105 : decode cX11_readsPiece 105 = .ok (.bipush 6, 2) := by decide +kernel
theorem dX11_readsPiece_107 : decode cX11_readsPiece 107 = .ok (.dup2, 1) := by decide +kernel
theorem dX11_readsPiece_108 : decode cX11_readsPiece 108 = .ok (.laload, 1) := by decide +kernel
theorem dX11_readsPiece_109 : decode cX11_readsPiece 109 = .ok (.lconst 1, 1) := by decide +kernel
theorem dX11_readsPiece_110 : decode cX11_readsPiece 110 = .ok (.ladd, 1) := by decide +kernel
theorem dX11_readsPiece_111 : decode cX11_readsPiece 111 = .ok (.lastore, 1) := by decide +kernel
theorem dX11_readsPiece_112 : decode cX11_readsPiece 112 = .ok (.goto 153, 3) := by decide +kernel
theorem dX11_readsPiece_115 : decode cX11_readsPiece 115 = .ok (.aload_n 0, 1) := by decide +kernel
theorem dX11_readsPiece_116 : decode cX11_readsPiece 116 = .ok (.ldc 131, 2) := by decide +kernel
theorem dX11_readsPiece_118 : decode cX11_readsPiece 118 = .ok (.invokevirtual 135, 3) := by decide +kernel
theorem dX11_readsPiece_121 : decode cX11_readsPiece 121 = .ok (.ifCond .eq 17, 3) := by decide +kernel
theorem dX11_readsPiece_124 : decode cX11_readsPiece 124 = .ok (.aload_n 0, 1) := by decide +kernel
theorem dX11_readsPiece_125 : decode cX11_readsPiece 125 = .ok (.getfield 13, 3) := by decide +kernel
theorem dX11_readsPiece_128 : decode cX11_readsPiece 128 = .ok (.bipush 7, 2) := by decide +kernel
theorem dX11_readsPiece_130 : decode cX11_readsPiece 130 = .ok (.dup2, 1) := by decide +kernel
theorem dX11_readsPiece_131 : decode cX11_readsPiece 131 = .ok (.laload, 1) := by decide +kernel
theorem dX11_readsPiece_132 : decode cX11_readsPiece 132 = .ok (.lconst 1, 1) := by decide +kernel
theorem dX11_readsPiece_133 : decode cX11_readsPiece 133 = .ok (.ladd, 1) := by decide +kernel
theorem dX11_readsPiece_134 : decode cX11_readsPiece 134 = .ok (.lastore, 1) := by decide +kernel
theorem dX11_readsPiece_135 : decode cX11_readsPiece 135 = .ok (.goto 130, 3) := by decide +kernel
theorem dX11_readsPiece_138 : decode cX11_readsPiece 138 = .ok (.aload_n 0, 1) := by decide +kernel
theorem dX11_readsPiece_139 : decode cX11_readsPiece 139 = .ok (.ldc 141, 2) := by decide +kernel
theorem dX11_readsPiece_141 : decode cX11_readsPiece 141 = .ok (.invokevirtual 135, 3) := by decide +kernel
theorem dX11_readsPiece_144 : decode cX11_readsPiece 144 = .ok (.ifCond .eq 112, 3) := by decide +kernel
theorem dX11_readsPiece_147 : decode cX11_readsPiece 147 = .ok (.aload_n 0, 1) := by decide +kernel
theorem dX11_readsPiece_148 : decode cX11_readsPiece 148 = .ok (.iconst 0, 1) := by decide +kernel
theorem dX11_readsPiece_149 : decode cX11_readsPiece 149 = .ok (.aload_n 0, 1) := by decide +kernel
theorem dX11_readsPiece_150 : decode cX11_readsPiece 150 = .ok (.getfield 13, 3) := by decide +kernel
theorem dX11_readsPiece_153 : decode cX11_readsPiece 153 = .ok (.bipush 7, 2) := by decide +kernel
theorem dX11_readsPiece_155 : decode cX11_readsPiece 155 = .ok (.laload, 1) := by decide +kernel
theorem dX11_readsPiece_156 : decode cX11_readsPiece 156 = .ok (.l2i, 1) := by decide +kernel
theorem dX11_readsPiece_157 : decode cX11_readsPiece 157 = .ok (.iconst 1, 1) := by decide +kernel
theorem dX11_readsPiece_158 : decode cX11_readsPiece 158 = .ok (.isub, 1) := by decide +kernel
theorem dX11_readsPiece_159 : decode cX11_readsPiece 159 = .ok (.invokevirtual 138, 3) := by decide +kernel
theorem dX11_readsPiece_162 : decode cX11_readsPiece 162 = .ok (.istore_n 1, 1) := by decide +kernel
theorem dX11_readsPiece_163 : decode cX11_readsPiece 163 = .ok (.aload_n 0, 1) := by decide +kernel
theorem dX11_readsPiece_164 : decode cX11_readsPiece 164 = .ok (.iconst 0, 1) := by decide +kernel
theorem dX11_readsPiece_165 : decode cX11_readsPiece 165 = .ok (.aload_n 0, 1) := by decide +kernel
theorem dX11_readsPiece_166 : decode cX11_readsPiece 166 = .ok (.getfield 13, 3) := by decide +kernel
theorem dX11_readsPiece_169 : decode cX11_readsPiece 169 = .ok (.bipush 6, 2) := by decide +kernel
theorem dX11_readsPiece_171 : decode cX11_readsPiece 171 = .ok (.laload, 1) := by decide +kernel
theorem dX11_readsPiece_172 : decode cX11_readsPiece 172 = .ok (.l2i, 1) := by decide +kernel
theorem dX11_readsPiece_173 : decode cX11_readsPiece 173 = .ok (.iconst 1, 1) := by decide +kernel
theorem dX11_readsPiece_174 : decode cX11_readsPiece 174 = .ok (.isub, 1) := by decide +kernel
theorem dX11_readsPiece_175 : decode cX11_readsPiece 175 = .ok (.invokevirtual 138, 3) := by decide +kernel
theorem dX11_readsPiece_178 : decode cX11_readsPiece 178 = .ok (.istore_n 2, 1) := by decide +kernel
theorem dX11_readsPiece_179 : decode cX11_readsPiece 179 = .ok (.aload_n 0, 1) := by decide +kernel
theorem dX11_readsPiece_180 : decode cX11_readsPiece 180 = .ok (.iconst 0, 1) := by decide +kernel
theorem dX11_readsPiece_181 : decode cX11_readsPiece 181 = .ok (.ldc 126, 2) := by decide +kernel
theorem dX11_readsPiece_183 : decode cX11_readsPiece 183 = .ok (.invokevirtual 138, 3) := by decide +kernel
theorem dX11_readsPiece_186 : decode cX11_readsPiece 186 = .ok (.istore_n 3, 1) := by decide +kernel
theorem dX11_readsPiece_187 : decode cX11_readsPiece 187 = .ok (.aload_n 0, 1) := by decide +kernel
theorem dX11_readsPiece_188 : decode cX11_readsPiece 188 = .ok (.iconst 0, 1) := by decide +kernel
theorem dX11_readsPiece_189 : decode cX11_readsPiece 189 = .ok (.ldc 126, 2) := by decide +kernel
theorem dX11_readsPiece_191 : decode cX11_readsPiece 191 = .ok (.invokevirtual 138, 3) := by decide +kernel
theorem dX11_readsPiece_194 : decode cX11_readsPiece 194 = .ok (.istore 4, 2) := by decide +kernel
theorem dX11_readsPiece_196 : decode cX11_readsPiece 196 = .ok (.aload_n 0, 1) := by decide +kernel
theorem dX11_readsPiece_197 : decode cX11_readsPiece 197 = .ok (.iconst 0, 1) := by decide +kernel
theorem dX11_readsPiece_198 : decode cX11_readsPiece 198 = .ok (.ldc 126, 2) := by decide +kernel
theorem dX11_readsPiece_200 : decode cX11_readsPiece 200 = .ok (.invokevirtual 138, 3) := by decide +kernel
theorem dX11_readsPiece_203 : decode cX11_readsPiece 203 = .ok (.istore 5, 2) := by decide +kernel
theorem dX11_readsPiece_205 : decode cX11_readsPiece 205 = .ok (.aload_n 0, 1) := by decide +kernel
theorem dX11_readsPiece_206 : decode cX11_readsPiece 206 = .ok (.invokevirtual 81, 3) := by decide +kernel
theorem dX11_readsPiece_209 : decode cX11_readsPiece 209 = .ok (.ifCond .eq 44, 3) := by decide +kernel
theorem dX11_readsPiece_212 : decode cX11_readsPiece 212 = .ok (.aload_n 0, 1) := by decide +kernel
theorem dX11_readsPiece_213 : decode cX11_readsPiece 213 = .ok (.getfield 13, 3) := by decide +kernel
theorem dX11_readsPiece_216 : decode cX11_readsPiece 216 = .ok (.iload_n 1, 1) := by decide +kernel
theorem dX11_readsPiece_217 : decode cX11_readsPiece 217 = .ok (.iload_n 2, 1) := by decide +kernel
theorem dX11_readsPiece_218 : decode cX11_readsPiece 218 = .ok (.iconst 0, 1) := by decide +kernel
theorem dX11_readsPiece_219 : decode cX11_readsPiece 219 = .ok (.invokestatic 44, 3) := by decide +kernel
theorem dX11_readsPiece_222 : decode cX11_readsPiece 222 = .ok (.iload 5, 2) := by decide +kernel
theorem dX11_readsPiece_224 : decode cX11_readsPiece 224 = .ok (.i2l, 1) := by decide +kernel
theorem dX11_readsPiece_225 : decode cX11_readsPiece 225 = .ok (.lastore, 1) := by decide +kernel
theorem dX11_readsPiece_226 : decode cX11_readsPiece 226 = .ok (.aload_n 0, 1) := by decide +kernel
theorem dX11_readsPiece_227 : decode cX11_readsPiece 227 = .ok (.getfield 13, 3) := by decide +kernel
theorem dX11_readsPiece_230 : decode cX11_readsPiece 230 = .ok (.iload_n 1, 1) := by decide +kernel
theorem dX11_readsPiece_231 : decode cX11_readsPiece 231 = .ok (.iload_n 2, 1) := by decide +kernel
theorem dX11_readsPiece_232 : decode cX11_readsPiece 232 = .ok (.iconst 1, 1) := by decide +kernel
theorem dX11_readsPiece_233 : decode cX11_readsPiece 233 = .ok (.invokestatic 44, 3) := by decide +kernel
theorem dX11_readsPiece_236 : decode cX11_readsPiece 236 = .ok (.iload 4, 2) := by decide +kernel
theorem dX11_readsPiece_238 : decode cX11_readsPiece 238 = .ok (.i2l, 1) := by decide +kernel
theorem dX11_readsPiece_239 : decode cX11_readsPiece 239 = .ok (.lastore, 1) := by decide +kernel
theorem dX11_readsPiece_240 : decode cX11_readsPiece 240 = .ok (.aload_n 0, 1) := by decide +kernel
theorem dX11_readsPiece_241 : decode cX11_readsPiece 241 = .ok (.getfield 13, 3) := by decide +kernel
theorem dX11_readsPiece_244 : decode cX11_readsPiece 244 = .ok (.iload_n 1, 1) := by decide +kernel
theorem dX11_readsPiece_245 : decode cX11_readsPiece 245 = .ok (.iload_n 2, 1) := by decide +kernel
theorem dX11_readsPiece_246 : decode cX11_readsPiece 246 = .ok (.iconst 2, 1) := by decide +kernel
theorem dX11_readsPiece_247 : decode cX11_readsPiece 247 = .ok (.invokestatic 44, 3) := by decide +kernel
theorem dX11_readsPiece_250 : decode cX11_readsPiece 250 = .ok (.iload_n 3, 1) := by decide +kernel
theorem dX11_readsPiece_251 : decode cX11_readsPiece 251 = .ok (.i2l, 1) := by decide +kernel
theorem dX11_readsPiece_252 : decode cX11_readsPiece 252 = .ok (.lastore, 1) := by decide +kernel
theorem dX11_readsPiece_253 : decode cX11_readsPiece 253 = .ok (.goto 12, 3) := by decide +kernel
theorem dX11_readsPiece_256 : decode cX11_readsPiece 256 = .ok (.aload_n 0, 1) := by decide +kernel
theorem dX11_readsPiece_257 : decode cX11_readsPiece 257 = .ok (.iconst 1, 1) := by decide +kernel
theorem dX11_readsPiece_258 : decode cX11_readsPiece 258 = .ok (.aload_n 0, 1) := by decide +kernel
theorem dX11_readsPiece_259 : decode cX11_readsPiece 259 = .ok (.getfield 71, 3) := by decide +kernel
theorem dX11_readsPiece_262 : decode cX11_readsPiece 262 = .ok (.invokevirtual 109, 3) := by decide +kernel
theorem dX11_readsPiece_265 : decode cX11_readsPiece 265 = .ok (.return_, 1) := by decide +kernel
theorem dX11_tell_0 : decode cX11_tell 0 = .ok (.aload_n 0, 1) := by decide +kernel
theorem dX11_tell_1 : decode cX11_tell 1 = .ok (.iconst 0, 1) := by decide +kernel
theorem dX11_tell_2 : decode cX11_tell 2 = .ok (.putfield 71, 3) := by decide +kernel
theorem dX11_tell_5 : decode cX11_tell 5 = .ok (.aload_n 0, 1) := by decide +kernel
theorem dX11_tell_6 : decode cX11_tell 6 = .ok (.iconst (-1), 1) := by decide +kernel
theorem dX11_tell_7 : decode cX11_tell 7 = .ok (.putfield 78, 3) := by decide +kernel
theorem dX11_tell_10 : decode cX11_tell 10 = .ok (.iconst 0, 1) := by decide +kernel
theorem dX11_tell_11 : decode cX11_tell 11 = .ok (.istore_n 1, 1) := by decide +kernel
theorem dX11_tell_12 : decode cX11_tell 12 = .ok (.iload_n 1, 1) := by decide +kernel
theorem dX11_tell_13 : decode cX11_tell 13 = .ok (.sipush 1216, 3) := by decide +kernel
theorem dX11_tell_16 : decode cX11_tell 16 = .ok (.if_icmp .ge 16, 3) := by decide +kernel
theorem dX11_tell_19 : decode cX11_tell 19 = .ok (.aload_n 0, 1) := by decide +kernel
theorem dX11_tell_20 : decode cX11_tell 20 = .ok (.getfield 13, 3) := by decide +kernel
theorem dX11_tell_23 : decode cX11_tell 23 = .ok (.iload_n 1, 1) := by decide +kernel
theorem dX11_tell_24 : decode cX11_tell 24 = .ok (.lconst 0, 1) := by decide +kernel
theorem dX11_tell_25 : decode cX11_tell 25 = .ok (.lastore, 1) := by decide +kernel
theorem dX11_tell_26 : decode cX11_tell 26 = .ok (.iinc 1 1, 3) := by decide +kernel
theorem dX11_tell_29 : decode cX11_tell 29 = .ok (.goto (-17), 3) := by decide +kernel
theorem dX11_tell_32 : decode cX11_tell 32 = .ok (.aload_n 0, 1) := by decide +kernel
theorem dX11_tell_33 : decode cX11_tell 33 = .ok (.ldc 142, 2) := by decide +kernel
theorem dX11_tell_35 : decode cX11_tell 35 = .ok (.invokevirtual 135, 3) := by decide +kernel
theorem dX11_tell_38 : decode cX11_tell 38 = .ok (.ifCond .ne 12, 3) := by decide +kernel
theorem dX11_tell_41 : decode cX11_tell 41 = .ok (.aload_n 0, 1) := by decide +kernel
theorem dX11_tell_42 : decode cX11_tell 42 = .ok (.iconst 1, 1) := by decide +kernel
theorem dX11_tell_43 : decode cX11_tell 43 = .ok (.aload_n 0, 1) := by decide +kernel
theorem dX11_tell_44 : decode cX11_tell 44 = .ok (.getfield 71, 3) := by decide +kernel
theorem dX11_tell_47 : decode cX11_tell 47 = .ok (.invokevirtual 109, 3) := by decide +kernel
theorem dX11_tell_50 : decode cX11_tell 50 = .ok (.iconst 0, 1) := by decide +kernel
theorem dX11_tell_51 : decode cX11_tell 51 = .ok (.istore_n 1, 1) := by decide +kernel
theorem dX11_tell_52 : decode cX11_tell 52 = .ok (.iload_n 1, 1) := by decide +kernel
theorem dX11_tell_53 : decode cX11_tell 53 = .ok (.iconst 5, 1) := by decide +kernel
theorem dX11_tell_54 : decode cX11_tell 54 = .ok (.if_icmp .gt 28, 3) := by decide +kernel
theorem dX11_tell_57 : decode cX11_tell 57 = .ok (.aload_n 0, 1) := by decide +kernel
theorem dX11_tell_58 : decode cX11_tell 58 = .ok (.getfield 13, 3) := by decide +kernel
theorem dX11_tell_61 : decode cX11_tell 61 = .ok (.iload_n 1, 1) := by decide +kernel
theorem dX11_tell_62 : decode cX11_tell 62 = .ok (.aload_n 0, 1) := by decide +kernel
theorem dX11_tell_63 : decode cX11_tell 63 = .ok (.iload_n 1, 1) := by decide +kernel
theorem dX11_tell_64 : decode cX11_tell 64 = .ok (.invokestatic 144, 3) := by decide +kernel
theorem dX11_tell_67 : decode cX11_tell 67 = .ok (.iload_n 1, 1) := by decide +kernel
theorem dX11_tell_68 : decode cX11_tell 68 = .ok (.invokestatic 148, 3) := by decide +kernel
theorem dX11_tell_71 : decode cX11_tell 71 = .ok (.invokevirtual 138, 3) := by decide +kernel
theorem dX11_tell_74 : decode cX11_tell 74 = .ok (.i2l, 1) := by decide +kernel
theorem dX11_tell_75 : decode cX11_tell 75 = .ok (.lastore, 1) := by decide +kernel
theorem dX11_tell_76 : decode cX11_tell 76 = .ok (.iinc 1 1, 3) := by decide +kernel
theorem dX11_tell_79 : decode cX11_tell 79 = .ok (.goto (-27), 3) := by decide +kernel
theorem dX11_tell_82 : decode cX11_tell 82 = .ok (.aload_n 0, 1) := by decide +kernel
theorem dX11_tell_83 : decode cX11_tell 83 = .ok (.invokevirtual 81, 3) := by decide +kernel
theorem dX11_tell_86 : decode cX11_tell 86 = .ok (.ifCond .eq 29, 3) := by decide +kernel
theorem dX11_tell_89 : decode cX11_tell 89 = .ok (.aload_n 0, 1) := by decide +kernel
theorem dX11_tell_90 : decode cX11_tell 90 = .ok (.invokevirtual 85, 3) := by decide +kernel
theorem dX11_tell_93 : decode cX11_tell 93 = .ok (.bipush 59, 2) := by decide +kernel
theorem dX11_tell_95 : decode cX11_tell 95 = .ok (.if_icmp .ne 20, 3) := by decide +kernel
theorem dX11_tell_98 : decode cX11_tell 98 = .ok (.aload_n 0, 1) := by decide +kernel
theorem dX11_tell_99 : decode cX11_tell 99 = .ok (.dup, 1) := by decide +kernel
theorem dX11_tell_100 : decode cX11_tell 100 = .ok (.getfield 71, 3) := by decide +kernel
theorem dX11_tell_103 : decode cX11_tell 103 = .ok (.iconst 1, 1) := by decide +kernel
theorem dX11_tell_104 : decode cX11_tell 104 = .ok (.iadd, 1) := by decide +kernel
theorem dX11_tell_105 : decode cX11_tell 105 = .ok (.putfield 71, 3) := by decide +kernel
theorem dX11_tell_108 : decode cX11_tell 108 = .ok (.aload_n 0, 1) := by decide +kernel
theorem dX11_tell_109 : decode cX11_tell 109 = .ok (.invokevirtual 151, 3) := by decide +kernel
theorem dX11_tell_112 : decode cX11_tell 112 = .ok (.goto (-30), 3) := by decide +kernel
theorem dX11_tell_115 : decode cX11_tell 115 = .ok (.aload_n 0, 1) := by decide +kernel
theorem dX11_tell_116 : decode cX11_tell 116 = .ok (.invokevirtual 81, 3) := by decide +kernel
theorem dX11_tell_119 : decode cX11_tell 119 = .ok (.ifCond .eq 20, 3) := by decide +kernel
theorem dX11_tell_122 : decode cX11_tell 122 = .ok (.aload_n 0, 1) := by decide +kernel
theorem dX11_tell_123 : decode cX11_tell 123 = .ok (.invokevirtual 85, 3) := by decide +kernel
theorem dX11_tell_126 : decode cX11_tell 126 = .ok (.iconst (-1), 1) := by decide +kernel
theorem dX11_tell_127 : decode cX11_tell 127 = .ok (.if_icmp .eq 12, 3) := by decide +kernel
theorem dX11_tell_130 : decode cX11_tell 130 = .ok (.aload_n 0, 1) := by decide +kernel
theorem dX11_tell_131 : decode cX11_tell 131 = .ok (.iconst 1, 1) := by decide +kernel
theorem dX11_tell_132 : decode cX11_tell 132 = .ok (.aload_n 0, 1) := by decide +kernel
theorem dX11_tell_133 : decode cX11_tell 133 = .ok (.getfield 71, 3) := by decide +kernel
theorem dX11_tell_136 : decode cX11_tell 136 = .ok (.invokevirtual 109, 3) := by decide +kernel
theorem dX11_tell_139 : decode cX11_tell 139 = .ok (.aload_n 0, 1) := by decide +kernel
theorem dX11_tell_140 : decode cX11_tell 140 = .ok (.getfield 13, 3) := by decide +kernel
theorem dX11_tell_143 : decode cX11_tell 143 = .ok (.bipush 6, 2) := by decide +kernel
theorem dX11_tell_145 : decode cX11_tell 145 = .ok (.laload, 1) := by decide +kernel
theorem dX11_tell_146 : decode cX11_tell 146 = .ok (.lconst 0, 1) := by decide +kernel
theorem dX11_tell_147 : decode cX11_tell 147 = .ok (.lcmp, 1) := by decide +kernel
theorem dX11_tell_148 : decode cX11_tell 148 = .ok (.ifCond .ne 12, 3) := by decide +kernel
theorem dX11_tell_151 : decode cX11_tell 151 = .ok (.aload_n 0, 1) := by decide +kernel
theorem dX11_tell_152 : decode cX11_tell 152 = .ok (.iconst 4, 1) := by decide +kernel
theorem dX11_tell_153 : decode cX11_tell 153 = .ok (.aload_n 0, 1) := by decide +kernel
theorem dX11_tell_154 : decode cX11_tell 154 = .ok (.getfield 64, 3) := by decide +kernel
theorem dX11_tell_157 : decode cX11_tell 157 = .ok (.invokevirtual 109, 3) := by decide +kernel
theorem dX11_tell_160 : decode cX11_tell 160 = .ok (.aload_n 0, 1) := by decide +kernel
theorem dX11_tell_161 : decode cX11_tell 161 = .ok (.iconst 0, 1) := by decide +kernel
theorem dX11_tell_162 : decode cX11_tell 162 = .ok (.putfield 64, 3) := by decide +kernel
theorem dX11_tell_165 : decode cX11_tell 165 = .ok (.aload_n 0, 1) := by decide +kernel
theorem dX11_tell_166 : decode cX11_tell 166 = .ok (.invokevirtual 81, 3) := by decide +kernel
theorem dX11_tell_169 : decode cX11_tell 169 = .ok (.ifCond .ne 11, 3) := by decide +kernel
theorem dX11_tell_172 : decode cX11_tell 172 = .ok (.bipush (-2), 2) := by decide +kernel
theorem dX11_tell_174 : decode cX11_tell 174 = .ok (.aload_n 0, 1) := by decide +kernel
theorem dX11_tell_175 : decode cX11_tell 175 = .ok (.getfield 78, 3) := by decide +kernel
theorem dX11_tell_178 : decode cX11_tell 178 = .ok (.isub, 1) := by decide +kernel
theorem dX11_tell_179 : decode cX11_tell 179 = .ok (.ireturn, 1) := by decide +kernel
theorem dX11_tell_180 : decode cX11_tell 180 = .ok (.aload_n 0, 1) := by decide +kernel
theorem dX11_tell_181 : decode cX11_tell 181 = .ok (.getfield 13, 3) := by decide +kernel
theorem dX11_tell_184 : decode cX11_tell 184 = .ok (.iconst 0, 1) := by decide +kernel
theorem dX11_tell_185 : decode cX11_tell 185 = .ok (.aload_n 0, 1) := by decide +kernel
theorem dX11_tell_186 : decode cX11_tell 186 = .ok (.getfield 9, 3) := by decide +kernel
theorem dX11_tell_189 : decode cX11_tell 189 = .ok (.iconst 0, 1) := by decide +kernel
theorem dX11_tell_190 : decode cX11_tell 190 = .ok (.invokestatic 154, 3) := by decide +kernel
theorem dX11_tell_193 : decode cX11_tell 193 = .ok (.aload_n 0, 1) := by decide +kernel
theorem dX11_tell_194 : decode cX11_tell 194 = .ok (.iconst 0, 1) := by decide +kernel
theorem dX11_tell_195 : decode cX11_tell 195 = .ok (.putfield 158, 3) := by decide +kernel
theorem dX11_tell_198 : decode cX11_tell 198 = .ok (.aload_n 0, 1) := by decide +kernel
theorem dX11_tell_199 : decode cX11_tell 199 = .ok (.invokevirtual 161, 3) := by decide +kernel
theorem dX11_tell_202 : decode cX11_tell 202 = .ok (.aload_n 0, 1) := by decide +kernel
theorem dX11_tell_203 : decode cX11_tell 203 = .ok (.bipush 6, 2) := by decide +kernel
theorem dX11_tell_205 : decode cX11_tell 205 = .ok (.invokevirtual 164, 3) := by decide +kernel
theorem dX11_tell_208 : decode cX11_tell 208 = .ok (.ireturn, 1) := by decide +kernel
theorem dX11_importedOf_0 : decode cX11_importedOf 0 = .ok (.aload_n 0, 1) := by decide +kernel
theorem dX11_importedOf_1 : decode cX11_importedOf 1 = .ok (.getfield 9, 3) := by decide +kernel
theorem dX11_importedOf_4 : decode cX11_importedOf 4 = .ok (.iload_n 1, 1) := by decide +kernel
theorem dX11_importedOf_5 : decode cX11_importedOf 5 = .ok (.iload_n 2, 1) := by decide +kernel
theorem dX11_importedOf_6 : decode cX11_importedOf 6 = .ok (.iconst 0, 1) := by decide +kernel
theorem dX11_importedOf_7 : decode cX11_importedOf 7 = .ok (.invokestatic 44, 3) := by decide +kernel
theorem dX11_importedOf_10 : decode cX11_importedOf 10 = .ok (.laload, 1) := by decide +kernel
theorem dX11_importedOf_11 : decode cX11_importedOf 11 = .ok (.aload_n 0, 1) := by decide +kernel
theorem dX11_importedOf_12 : decode cX11_importedOf 12 = .ok (.getfield 9, 3) := by decide +kernel
theorem dX11_importedOf_15 : decode cX11_importedOf 15 = .ok (.iload_n 1, 1) := by decide +kernel
theorem dX11_importedOf_16 : decode cX11_importedOf 16 = .ok (.iload_n 2, 1) := by decide +kernel
theorem dX11_importedOf_17 : decode cX11_importedOf 17 = .ok (.iconst 1, 1) := by decide +kernel
theorem dX11_importedOf_18 : decode cX11_importedOf 18 = .ok (.invokestatic 44, 3) := by decide +kernel
theorem dX11_importedOf_21 : decode cX11_importedOf 21 = .ok (.laload, 1) := by decide +kernel
theorem dX11_importedOf_22 : decode cX11_importedOf 22 = .ok (.ladd, 1) := by decide +kernel
theorem dX11_importedOf_23 : decode cX11_importedOf 23 = .ok (.aload_n 0, 1) := by decide +kernel
theorem dX11_importedOf_24 : decode cX11_importedOf 24 = .ok (.getfield 9, 3) := by decide +kernel
theorem dX11_importedOf_27 : decode cX11_importedOf 27 = .ok (.iload_n 1, 1) := by decide +kernel
theorem dX11_importedOf_28 : decode cX11_importedOf 28 = .ok (.iload_n 2, 1) := by decide +kernel
theorem dX11_importedOf_29 : decode cX11_importedOf 29 = .ok (.iconst 2, 1) := by decide +kernel
theorem dX11_importedOf_30 : decode cX11_importedOf 30 = .ok (.invokestatic 44, 3) := by decide +kernel
theorem dX11_importedOf_33 : decode cX11_importedOf 33 = .ok (.laload, 1) := by decide +kernel
theorem dX11_importedOf_34 : decode cX11_importedOf 34 = .ok (.ladd, 1) := by decide +kernel
theorem dX11_importedOf_35 : decode cX11_importedOf 35 = .ok (.lreturn, 1) := by decide +kernel
theorem dX11_isTraditional_0 : decode cX11_isTraditional 0 = .ok (.iconst 0, 1) := by decide +kernel
theorem dX11_isTraditional_1 : decode cX11_isTraditional 1 = .ok (.istore_n 3, 1) := by decide +kernel
theorem dX11_isTraditional_2 : decode cX11_isTraditional 2 = .ok (.iconst 0, 1) := by decide +kernel
theorem dX11_isTraditional_3 : decode cX11_isTraditional 3 = .ok (.istore 4, 2) := by decide +kernel
theorem dX11_isTraditional_5 : decode cX11_isTraditional 5 = .ok (.iload 4, 2) := by decide +kernel
theorem dX11_isTraditional_7 : decode cX11_isTraditional 7 = .ok (.iconst 3, 1) := by decide +kernel
theorem dX11_isTraditional_8 : decode cX11_isTraditional 8 = .ok (.if_icmp .ge 33, 3) := by decide +kernel
theorem dX11_isTraditional_11 : decode cX11_isTraditional 11 = .ok (.iload_n 3, 1) := by decide +kernel
theorem dX11_isTraditional_12 : decode cX11_isTraditional 12 = .ok (.aload_n 0, 1) := by decide +kernel
theorem dX11_isTraditional_13 : decode cX11_isTraditional 13 = .ok (.iload_n 1, 1) := by decide +kernel
theorem dX11_isTraditional_14 : decode cX11_isTraditional 14 = .ok (.iload_n 2, 1) := by decide +kernel
theorem dX11_isTraditional_15 : decode cX11_isTraditional 15 = .ok (.iconst 0, 1) := by decide +kernel
theorem dX11_isTraditional_16 : decode cX11_isTraditional 16 = .ok (.iload 4, 2) := by decide +kernel
theorem dX11_isTraditional_18 : decode cX11_isTraditional 18 = .ok (.iadd, 1) := by decide +kernel
theorem dX11_isTraditional_19 : decode cX11_isTraditional 19 = .ok (.invokevirtual 167, 3) := by decide +kernel
theorem dX11_isTraditional_22 : decode cX11_isTraditional 22 = .ok (.ifCond .le 7, 3) := by decide +kernel
theorem dX11_isTraditional_25 : decode cX11_isTraditional 25 = .ok (.iconst 1, 1) := by decide +kernel
theorem dX11_isTraditional_26 : decode cX11_isTraditional 26 = .ok (.goto 4, 3) := by decide +kernel
theorem dX11_isTraditional_29 : decode cX11_isTraditional 29 = .ok (.iconst 0, 1) := by decide +kernel
theorem dX11_isTraditional_30 : decode cX11_isTraditional 30 = .ok (.invokestatic 122, 3) := by decide +kernel
theorem dX11_isTraditional_33 : decode cX11_isTraditional 33 = .ok (.iadd, 1) := by decide +kernel
theorem dX11_isTraditional_34 : decode cX11_isTraditional 34 = .ok (.istore_n 3, 1) := by decide +kernel
theorem dX11_isTraditional_35 : decode cX11_isTraditional 35 = .ok (.iinc 4 1, 3) := by decide +kernel
theorem dX11_isTraditional_38 : decode cX11_isTraditional 38 = .ok (.goto (-33), 3) := by decide +kernel
theorem dX11_isTraditional_41 : decode cX11_isTraditional 41 = .ok (.iload_n 3, 1) := by decide +kernel
theorem dX11_isTraditional_42 : decode cX11_isTraditional 42 = .ok (.aload_n 0, 1) := by decide +kernel
theorem dX11_isTraditional_43 : decode cX11_isTraditional 43 = .ok (.iconst 5, 1) := by decide +kernel
theorem dX11_isTraditional_44 : decode cX11_isTraditional 44 = .ok (.invokevirtual 164, 3) := by decide +kernel
theorem dX11_isTraditional_47 : decode cX11_isTraditional 47 = .ok (.if_icmp .lt 7, 3) := by decide +kernel
theorem dX11_isTraditional_50 : decode cX11_isTraditional 50 = .ok (.iconst 1, 1) := by decide +kernel
theorem dX11_isTraditional_51 : decode cX11_isTraditional 51 = .ok (.goto 4, 3) := by decide +kernel
theorem dX11_isTraditional_54 : decode cX11_isTraditional 54 = .ok (.iconst 0, 1) := by decide +kernel
theorem dX11_isTraditional_55 : decode cX11_isTraditional 55 = .ok (.ireturn, 1) := by decide +kernel
theorem dX11_allImported_0 : decode cX11_allImported 0 = .ok (.lconst 0, 1) := by decide +kernel
theorem dX11_allImported_1 : decode cX11_allImported 1 = .ok (.lstore_n 2, 1) := by decide +kernel
theorem dX11_allImported_2 : decode cX11_allImported 2 = .ok (.iconst 0, 1) := by decide +kernel
theorem dX11_allImported_3 : decode cX11_allImported 3 = .ok (.istore 4, 2) := by decide +kernel
theorem dX11_allImported_5 : decode cX11_allImported 5 = .ok (.iload 4, 2) := by decide +kernel
theorem dX11_allImported_7 : decode cX11_allImported 7 = .ok (.aload_n 0, 1) := by decide +kernel
theorem dX11_allImported_8 : decode cX11_allImported 8 = .ok (.bipush 7, 2) := by decide +kernel
theorem dX11_allImported_10 : decode cX11_allImported 10 = .ok (.invokevirtual 164, 3) := by decide +kernel
theorem dX11_allImported_13 : decode cX11_allImported 13 = .ok (.if_icmp .ge 35, 3) := by decide +kernel
theorem dX11_allImported_16 : decode cX11_allImported 16 = .ok (.lload_n 2, 1) := by decide +kernel
theorem dX11_allImported_17 : decode cX11_allImported 17 = .ok (.aload_n 0, 1) := by decide +kernel
theorem dX11_allImported_18 : decode cX11_allImported 18 = .ok (.iload 4, 2) := by decide +kernel
theorem dX11_allImported_20 : decode cX11_allImported 20 = .ok (.iload_n 1, 1) := by decide +kernel
theorem dX11_allImported_21 : decode cX11_allImported 21 = .ok (.iconst 4, 1) := by decide +kernel
theorem dX11_allImported_22 : decode cX11_allImported 22 = .ok (.invokevirtual 167, 3) := by decide +kernel
theorem dX11_allImported_25 : decode cX11_allImported 25 = .ok (.iconst 1, 1) := by decide +kernel
theorem dX11_allImported_26 : decode cX11_allImported 26 = .ok (.if_icmp .ne 13, 3) := by decide +kernel
theorem dX11_allImported_29 : decode cX11_allImported 29 = .ok (.aload_n 0, 1) := by decide +kernel
theorem dX11_allImported_30 : decode cX11_allImported 30 = .ok (.iload 4, 2) := by decide +kernel
theorem dX11_allImported_32 : decode cX11_allImported 32 = .ok (.iload_n 1, 1) := by decide +kernel
theorem dX11_allImported_33 : decode cX11_allImported 33 = .ok (.invokevirtual 170, 3) := by decide +kernel
theorem dX11_allImported_36 : decode cX11_allImported 36 = .ok (.goto 4, 3) := by decide +kernel
theorem dX11_allImported_39 : decode cX11_allImported 39 = .ok (.lconst 0, 1) := by decide +kernel
theorem dX11_allImported_40 : decode cX11_allImported 40 = .ok (.ladd, 1) := by decide +kernel
theorem dX11_allImported_41 : decode cX11_allImported 41 = .ok (.lstore_n 2, 1) := by decide +kernel
theorem dX11_allImported_42 : decode cX11_allImported 42 = .ok (.iinc 4 1, 3) := by decide +kernel
theorem dX11_allImported_45 : decode cX11_allImported 45 = .ok (.goto (-40), 3) := by decide +kernel
theorem dX11_allImported_48 : decode cX11_allImported 48 = .ok (.lload_n 2, 1) := by decide +kernel
theorem dX11_allImported_49 : decode cX11_allImported 49 = .ok (.lreturn, 1) := by decide +kernel
theorem dX11_shareBy_0 : decode cX11_shareBy 0 = .ok (.aload_n 0, 1) := by decide +kernel
theorem dX11_shareBy_1 : decode cX11_shareBy 1 = .ok (.iload_n 1, 1) := by decide +kernel
theorem dX11_shareBy_2 : decode cX11_shareBy 2 = .ok (.iload_n 2, 1) := by decide +kernel
theorem dX11_shareBy_3 : decode cX11_shareBy 3 = .ok (.iconst 4, 1) := by decide +kernel
theorem dX11_shareBy_4 : decode cX11_shareBy 4 = .ok (.invokevirtual 167, 3) := by decide +kernel
theorem dX11_shareBy_7 : decode cX11_shareBy 7 = .ok (.iconst 1, 1) := by decide +kernel
theorem dX11_shareBy_8 : decode cX11_shareBy 8 = .ok (.if_icmp .ne 28, 3) := by decide +kernel
theorem dX11_shareBy_11 : decode cX11_shareBy 11 = .ok (.lload_n 3, 1) := by decide +kernel
theorem dX11_shareBy_12 : decode cX11_shareBy 12 = .ok (.lload 5, 2) := by decide +kernel
theorem dX11_shareBy_14 : decode cX11_shareBy 14 = .ok (.lmul, 1) := by decide +kernel
theorem dX11_shareBy_15 : decode cX11_shareBy 15 = .ok (.ldc2_w 174, 3) := by decide +kernel
theorem dX11_shareBy_18 : decode cX11_shareBy 18 = .ok (.ldiv, 1) := by decide +kernel
theorem dX11_shareBy_19 : decode cX11_shareBy 19 = .ok (.aload_n 0, 1) := by decide +kernel
theorem dX11_shareBy_20 : decode cX11_shareBy 20 = .ok (.iload_n 1, 1) := by decide +kernel
theorem dX11_shareBy_21 : decode cX11_shareBy 21 = .ok (.iload_n 2, 1) := by decide +kernel
theorem dX11_shareBy_22 : decode cX11_shareBy 22 = .ok (.invokevirtual 170, 3) := by decide +kernel
theorem dX11_shareBy_25 : decode cX11_shareBy 25 = .ok (.lmul, 1) := by decide +kernel
theorem dX11_shareBy_26 : decode cX11_shareBy 26 = .ok (.aload_n 0, 1) := by decide +kernel
theorem dX11_shareBy_27 : decode cX11_shareBy 27 = .ok (.iload_n 2, 1) := by decide +kernel
theorem dX11_shareBy_28 : decode cX11_shareBy 28 = .ok (.invokevirtual 176, 3) := by decide +kernel
theorem dX11_shareBy_31 : decode cX11_shareBy 31 = .ok (.ldiv, 1) := by decide +kernel
theorem dX11_shareBy_32 : decode cX11_shareBy 32 = .ok (.l2i, 1) := by decide +kernel
theorem dX11_shareBy_33 : decode cX11_shareBy 33 = .ok (.goto 4, 3) := by decide +kernel
theorem dX11_shareBy_36 : decode cX11_shareBy 36 = .ok (.iconst 0, 1) := by decide +kernel
theorem dX11_shareBy_37 : decode cX11_shareBy 37 = .ok (.ireturn, 1) := by decide +kernel
theorem dX11_leaves_0 : decode cX11_leaves 0 = .ok (.aload_n 0, 1) := by decide +kernel
theorem dX11_leaves_1 : decode cX11_leaves 1 = .ok (.getfield 9, 3) := by decide +kernel
theorem dX11_leaves_4 : decode cX11_leaves 4 = .ok (.iload_n 1, 1) := by decide +kernel
theorem dX11_leaves_5 : decode cX11_leaves 5 = .ok (.iconst 3, 1) := by decide +kernel
theorem dX11_leaves_6 : decode cX11_leaves 6 = .ok (.invokestatic 40, 3) := by decide +kernel
theorem dX11_leaves_9 : decode cX11_leaves 9 = .ok (.laload, 1) := by decide +kernel
theorem dX11_leaves_10 : decode cX11_leaves 10 = .ok (.lstore_n 2, 1) := by decide +kernel
theorem dX11_leaves_11 : decode cX11_leaves 11 = .ok (.iconst 0, 1) := by decide +kernel
theorem dX11_leaves_12 : decode cX11_leaves 12 = .ok (.istore 4, 2) := by decide +kernel
theorem dX11_leaves_14 : decode cX11_leaves 14 = .ok (.iload 4, 2) := by decide +kernel
theorem dX11_leaves_16 : decode cX11_leaves 16 = .ok (.aload_n 0, 1) := by decide +kernel
theorem dX11_leaves_17 : decode cX11_leaves 17 = .ok (.bipush 7, 2) := by decide +kernel
theorem dX11_leaves_19 : decode cX11_leaves 19 = .ok (.invokevirtual 164, 3) := by decide +kernel
theorem dX11_leaves_22 : decode cX11_leaves 22 = .ok (.if_icmp .ge 25, 3) := by decide +kernel
theorem dX11_leaves_25 : decode cX11_leaves 25 = .ok (.lload_n 2, 1) := by decide +kernel
theorem dX11_leaves_26 : decode cX11_leaves 26 = .ok (.aload_n 0, 1) := by decide +kernel
theorem dX11_leaves_27 : decode cX11_leaves 27 = .ok (.getfield 9, 3) := by decide +kernel
theorem dX11_leaves_30 : decode cX11_leaves 30 = .ok (.iload 4, 2) := by decide +kernel
theorem dX11_leaves_32 : decode cX11_leaves 32 = .ok (.iload_n 1, 1) := by decide +kernel
theorem dX11_leaves_33 : decode cX11_leaves 33 = .ok (.bipush 6, 2) := by decide +kernel
theorem dX11_leaves_35 : decode cX11_leaves 35 = .ok (.invokestatic 44, 3) := by decide +kernel
theorem dX11_leaves_38 : decode cX11_leaves 38 = .ok (.laload, 1) := by decide +kernel
theorem dX11_leaves_39 : decode cX11_leaves 39 = .ok (.ladd, 1) := by decide +kernel
theorem dX11_leaves_40 : decode cX11_leaves 40 = .ok (.lstore_n 2, 1) := by decide +kernel
theorem dX11_leaves_41 : decode cX11_leaves 41 = .ok (.iinc 4 1, 3) := by decide +kernel
theorem dX11_leaves_44 : decode cX11_leaves 44 = .ok (.goto (-30), 3) := by decide +kernel
theorem dX11_leaves_47 : decode cX11_leaves 47 = .ok (.lload_n 2, 1) := by decide +kernel
theorem dX11_leaves_48 : decode cX11_leaves 48 = .ok (.lreturn, 1) := by decide +kernel
theorem dX11_periodBegins_0 : decode cX11_periodBegins 0 = .ok (.aload_n 0, 1) := by decide +kernel
theorem dX11_periodBegins_1 : decode cX11_periodBegins 1 = .ok (.getfield 9, 3) := by decide +kernel
theorem dX11_periodBegins_4 : decode cX11_periodBegins 4 = .ok (.bipush 9, 2) := by decide +kernel
theorem dX11_periodBegins_6 : decode cX11_periodBegins 6 = .ok (.laload, 1) := by decide +kernel
theorem dX11_periodBegins_7 : decode cX11_periodBegins 7 = .ok (.ldc2_w 180, 3) := by decide +kernel
theorem dX11_periodBegins_10 : decode cX11_periodBegins 10 = .ok (.lrem, 1) := by decide +kernel
theorem dX11_periodBegins_11 : decode cX11_periodBegins 11 = .ok (.lconst 0, 1) := by decide +kernel
theorem dX11_periodBegins_12 : decode cX11_periodBegins 12 = .ok (.lcmp, 1) := by decide +kernel
theorem dX11_periodBegins_13 : decode cX11_periodBegins 13 = .ok (.ifCond .ne 7, 3) := by decide +kernel
theorem dX11_periodBegins_16 : decode cX11_periodBegins 16 = .ok (.iconst 1, 1) := by decide +kernel
theorem dX11_periodBegins_17 : decode cX11_periodBegins 17 = .ok (.goto 4, 3) := by decide +kernel
theorem dX11_periodBegins_20 : decode cX11_periodBegins 20 = .ok (.iconst 0, 1) := by decide +kernel
theorem dX11_periodBegins_21 : decode cX11_periodBegins 21 = .ok (.istore_n 1, 1) := by decide +kernel
theorem dX11_periodBegins_22 : decode cX11_periodBegins 22 = .ok (.iconst 0, 1) := by decide +kernel
theorem dX11_periodBegins_23 : decode cX11_periodBegins 23 = .ok (.istore_n 2, 1) := by decide +kernel
theorem dX11_periodBegins_24 : decode cX11_periodBegins 24 = .ok (.iload_n 2, 1) := by decide +kernel
theorem dX11_periodBegins_25 : decode cX11_periodBegins 25 = .ok (.aload_n 0, 1) := by decide +kernel
theorem dX11_periodBegins_26 : decode cX11_periodBegins 26 = .ok (.bipush 6, 2) := by decide +kernel
theorem dX11_periodBegins_28 : decode cX11_periodBegins 28 = .ok (.invokevirtual 164, 3) := by decide +kernel
theorem dX11_periodBegins_31 : decode cX11_periodBegins 31 = .ok (.if_icmp .ge 237, 3) := by decide +kernel
theorem dX11_periodBegins_34 : decode cX11_periodBegins 34 = .ok (.iload_n 1, 1) := by decide +kernel
theorem dX11_periodBegins_35 : decode cX11_periodBegins 35 = .ok (.ifCond .eq 7, 3) := by decide +kernel
theorem dX11_periodBegins_38 : decode cX11_periodBegins 38 = .ok (.lconst 0, 1) := by decide +kernel
theorem dX11_periodBegins_39 : decode cX11_periodBegins 39 = .ok (.goto 8, 3) := by decide +kernel
theorem dX11_periodBegins_42 : decode cX11_periodBegins 42 = .ok (.aload_n 0, 1) := by decide +kernel
theorem dX11_periodBegins_43 : decode cX11_periodBegins 43 = .ok (.iload_n 2, 1) := by decide +kernel
theorem dX11_periodBegins_44 : decode cX11_periodBegins 44 = .ok (.invokevirtual 182, 3) := by decide +kernel
theorem dX11_periodBegins_47 : decode cX11_periodBegins 47 = .ok (.lstore_n 3, 1) := by decide +kernel
theorem dX11_periodBegins_48 : decode cX11_periodBegins 48 = .ok (.aload_n 0, 1) := by decide +kernel
theorem dX11_periodBegins_49 : decode cX11_periodBegins 49 = .ok (.getfield 9, 3) := by decide +kernel
theorem dX11_periodBegins_52 : decode cX11_periodBegins 52 = .ok (.iload_n 2, 1) := by decide +kernel
theorem dX11_periodBegins_53 : decode cX11_periodBegins 53 = .ok (.iconst 0, 1) := by decide +kernel
theorem dX11_periodBegins_54 : decode cX11_periodBegins 54 = .ok (.invokestatic 40, 3) := by decide +kernel
theorem dX11_periodBegins_57 : decode cX11_periodBegins 57 = .ok (.laload, 1) := by decide +kernel
theorem dX11_periodBegins_58 : decode cX11_periodBegins 58 = .ok (.lstore 5, 2) := by decide +kernel
theorem dX11_periodBegins_60 : decode cX11_periodBegins 60 = .ok (.iconst 0, 1) := by decide +kernel
theorem dX11_periodBegins_61 : decode cX11_periodBegins 61 = .ok (.istore 7, 2) := by decide +kernel
theorem dX11_periodBegins_63 : decode cX11_periodBegins 63 = .ok (.iload 7, 2) := by decide +kernel
theorem dX11_periodBegins_65 : decode cX11_periodBegins 65 = .ok (.aload_n 0, 1) := by decide +kernel
theorem dX11_periodBegins_66 : decode cX11_periodBegins 66 = .ok (.bipush 7, 2) := by decide +kernel
theorem dX11_periodBegins_68 : decode cX11_periodBegins 68 = .ok (.invokevirtual 164, 3) := by decide +kernel
theorem dX11_periodBegins_71 : decode cX11_periodBegins 71 = .ok (.if_icmp .ge 32, 3) := by decide +kernel
theorem dX11_periodBegins_74 : decode cX11_periodBegins 74 = .ok (.aload_n 0, 1) := by decide +kernel
theorem dX11_periodBegins_75 : decode cX11_periodBegins 75 = .ok (.getfield 9, 3) := by decide +kernel
theorem dX11_periodBegins_78 : decode cX11_periodBegins 78 = .ok (.iload 7, 2) := by decide +kernel
theorem dX11_periodBegins_80 : decode cX11_periodBegins 80 = .ok (.iload_n 2, 1) := by decide +kernel
theorem dX11_periodBegins_81 : decode cX11_periodBegins 81 = .ok (.iconst 4, 1) := by decide +kernel
theorem dX11_periodBegins_82 : decode cX11_periodBegins 82 = .ok (.invokestatic 44, 3) := by decide +kernel
theorem dX11_periodBegins_85 : decode cX11_periodBegins 85 = .ok (.aload_n 0, 1) := by decide +kernel
theorem dX11_periodBegins_86 : decode cX11_periodBegins 86 = .ok (.iload 7, 2) := by decide +kernel
theorem dX11_periodBegins_88 : decode cX11_periodBegins 88 = .ok (.iload_n 2, 1) := by decide +kernel
theorem dX11_periodBegins_89 : decode cX11_periodBegins 89 = .ok (.invokevirtual 185, 3) := by decide +kernel
theorem dX11_periodBegins_92 : decode cX11_periodBegins 92 = .ok (.invokestatic 122, 3) := by decide +kernel
theorem dX11_periodBegins_95 : decode cX11_periodBegins 95 = .ok (.i2l, 1) := by decide +kernel
theorem dX11_periodBegins_96 : decode cX11_periodBegins 96 = .ok (.lastore, 1) := by decide +kernel
theorem dX11_periodBegins_97 : decode cX11_periodBegins 97 = .ok (.iinc 7 1, 3) := by decide +kernel
theorem dX11_periodBegins_100 : decode cX11_periodBegins 100 = .ok (.goto (-37), 3) := by decide +kernel
theorem dX11_periodBegins_103 : decode cX11_periodBegins 103 = .ok (.lload 5, 2) := by decide +kernel
theorem dX11_periodBegins_105 : decode cX11_periodBegins 105 = .ok (.lload_n 3, 1) := by decide +kernel
theorem dX11_periodBegins_106 : decode cX11_periodBegins 106 = .ok (.ladd, 1) := by decide +kernel
theorem dX11_periodBegins_107 : decode cX11_periodBegins 107 = .ok (.lstore 7, 2) := by decide +kernel
theorem dX11_periodBegins_109 : decode cX11_periodBegins 109 = .ok (.iconst 0, 1) := by decide +kernel
theorem dX11_periodBegins_110 : decode cX11_periodBegins 110 = .ok (.istore 9, 2) := by decide +kernel
theorem dX11_periodBegins_112 : decode cX11_periodBegins 112 = .ok (.iload 9, 2) := by decide +kernel
theorem dX11_periodBegins_114 : decode cX11_periodBegins 114 = .ok (.aload_n 0, 1) := by decide +kernel
theorem dX11_periodBegins_115 : decode cX11_periodBegins 115 = .ok (.bipush 7, 2) := by decide +kernel
theorem dX11_periodBegins_117 : decode cX11_periodBegins 117 = .ok (.invokevirtual 164, 3) := by decide +kernel
theorem dX11_periodBegins_120 : decode cX11_periodBegins 120 = .ok (.if_icmp .ge 79, 3) := by decide +kernel
theorem dX11_periodBegins_123 : decode cX11_periodBegins 123 = .ok (.aload_n 0, 1) := by decide +kernel
theorem dX11_periodBegins_124 : decode cX11_periodBegins 124 = .ok (.iload 9, 2) := by decide +kernel
theorem dX11_periodBegins_126 : decode cX11_periodBegins 126 = .ok (.iload_n 2, 1) := by decide +kernel
theorem dX11_periodBegins_127 : decode cX11_periodBegins 127 = .ok (.lload 5, 2) := by decide +kernel
theorem dX11_periodBegins_129 : decode cX11_periodBegins 129 = .ok (.aload_n 0, 1) := by decide +kernel
theorem dX11_periodBegins_130 : decode cX11_periodBegins 130 = .ok (.getfield 9, 3) := by decide +kernel
theorem dX11_periodBegins_133 : decode cX11_periodBegins 133 = .ok (.iconst 0, 1) := by decide +kernel
theorem dX11_periodBegins_134 : decode cX11_periodBegins 134 = .ok (.laload, 1) := by decide +kernel
theorem dX11_periodBegins_135 : decode cX11_periodBegins 135 = .ok (.invokevirtual 189, 3) := by decide +kernel
theorem dX11_periodBegins_138 : decode cX11_periodBegins 138 = .ok (.istore 10, 2) := by decide +kernel
theorem dX11_periodBegins_140 : decode cX11_periodBegins 140 = .ok (.aload_n 0, 1) := by decide +kernel
theorem dX11_periodBegins_141 : decode cX11_periodBegins 141 = .ok (.getfield 9, 3) := by decide +kernel
theorem dX11_periodBegins_144 : decode cX11_periodBegins 144 = .ok (.iload 9, 2) := by decide +kernel
theorem dX11_periodBegins_146 : decode cX11_periodBegins 146 = .ok (.iload_n 2, 1) := by decide +kernel
theorem dX11_periodBegins_147 : decode cX11_periodBegins 147 = .ok (.iconst 5, 1) := by decide +kernel
theorem dX11_periodBegins_148 : decode cX11_periodBegins 148 = .ok (.invokestatic 44, 3) := by decide +kernel
theorem dX11_periodBegins_151 : decode cX11_periodBegins 151 = .ok (.iload 10, 2) := by decide +kernel
theorem dX11_periodBegins_153 : decode cX11_periodBegins 153 = .ok (.i2l, 1) := by decide +kernel
theorem dX11_periodBegins_154 : decode cX11_periodBegins 154 = .ok (.lastore, 1) := by decide +kernel
theorem dX11_periodBegins_155 : decode cX11_periodBegins 155 = .ok (.aload_n 0, 1) := by decide +kernel
theorem dX11_periodBegins_156 : decode cX11_periodBegins 156 = .ok (.getfield 9, 3) := by decide +kernel
theorem dX11_periodBegins_159 : decode cX11_periodBegins 159 = .ok (.iload 9, 2) := by decide +kernel
theorem dX11_periodBegins_161 : decode cX11_periodBegins 161 = .ok (.iload_n 2, 1) := by decide +kernel
theorem dX11_periodBegins_162 : decode cX11_periodBegins 162 = .ok (.bipush 6, 2) := by decide +kernel
theorem dX11_periodBegins_164 : decode cX11_periodBegins 164 = .ok (.invokestatic 44, 3) := by decide +kernel
theorem dX11_periodBegins_167 : decode cX11_periodBegins 167 = .ok (.iload 10, 2) := by decide +kernel
theorem dX11_periodBegins_169 : decode cX11_periodBegins 169 = .ok (.i2l, 1) := by decide +kernel
theorem dX11_periodBegins_170 : decode cX11_periodBegins 170 = .ok (.lastore, 1) := by decide +kernel
theorem dX11_periodBegins_171 : decode cX11_periodBegins 171 = .ok (.aload_n 0, 1) := by decide +kernel
theorem dX11_periodBegins_172 : decode cX11_periodBegins 172 = .ok (.getfield 9, 3) := by decide +kernel
theorem dX11_periodBegins_175 : decode cX11_periodBegins 175 = .ok (.iload 9, 2) := by decide +kernel
theorem dX11_periodBegins_177 : decode cX11_periodBegins 177 = .ok (.iload_n 2, 1) := by decide +kernel
theorem dX11_periodBegins_178 : decode cX11_periodBegins 178 = .ok (.bipush 7, 2) := by decide +kernel
theorem dX11_periodBegins_180 : decode cX11_periodBegins 180 = .ok (.invokestatic 44, 3) := by decide +kernel
theorem dX11_periodBegins_183 : decode cX11_periodBegins 183 = .ok (.lconst 0, 1) := by decide +kernel
theorem dX11_periodBegins_184 : decode cX11_periodBegins 184 = .ok (.lastore, 1) := by decide +kernel
theorem dX11_periodBegins_185 : decode cX11_periodBegins 185 = .ok (.lload 7, 2) := by decide +kernel
theorem dX11_periodBegins_187 : decode cX11_periodBegins 187 = .ok (.iload 10, 2) := by decide +kernel
theorem dX11_periodBegins_189 : decode cX11_periodBegins 189 = .ok (.i2l, 1) := by decide +kernel
theorem dX11_periodBegins_190 : decode cX11_periodBegins 190 = .ok (.lsub, 1) := by decide +kernel
theorem dX11_periodBegins_191 : decode cX11_periodBegins 191 = .ok (.lstore 7, 2) := by decide +kernel
theorem dX11_periodBegins_193 : decode cX11_periodBegins 193 = .ok (.iinc 9 1, 3) := by decide +kernel
theorem dX11_periodBegins_196 : decode cX11_periodBegins 196 = .ok (.goto (-84), 3) := by decide +kernel
theorem dX11_periodBegins_199 : decode cX11_periodBegins 199 = .ok (.aload_n 0, 1) := by decide +kernel
theorem dX11_periodBegins_200 : decode cX11_periodBegins 200 = .ok (.getfield 9, 3) := by decide +kernel
theorem dX11_periodBegins_203 : decode cX11_periodBegins 203 = .ok (.iload_n 2, 1) := by decide +kernel
theorem dX11_periodBegins_204 : decode cX11_periodBegins 204 = .ok (.iconst 1, 1) := by decide +kernel
theorem dX11_periodBegins_205 : decode cX11_periodBegins 205 = .ok (.invokestatic 40, 3) := by decide +kernel
theorem dX11_periodBegins_208 : decode cX11_periodBegins 208 = .ok (.lload 5, 2) := by decide +kernel
theorem dX11_periodBegins_210 : decode cX11_periodBegins 210 = .ok (.lastore, 1) := by decide +kernel
theorem dX11_periodBegins_211 : decode cX11_periodBegins 211 = .ok (.aload_n 0, 1) := by decide +kernel
theorem dX11_periodBegins_212 : decode cX11_periodBegins 212 = .ok (.getfield 9, 3) := by decide +kernel
theorem dX11_periodBegins_215 : decode cX11_periodBegins 215 = .ok (.iload_n 2, 1) := by decide +kernel
theorem dX11_periodBegins_216 : decode cX11_periodBegins 216 = .ok (.iconst 2, 1) := by decide +kernel
theorem dX11_periodBegins_217 : decode cX11_periodBegins 217 = .ok (.invokestatic 40, 3) := by decide +kernel
theorem dX11_periodBegins_220 : decode cX11_periodBegins 220 = .ok (.lload_n 3, 1) := by decide +kernel
theorem dX11_periodBegins_221 : decode cX11_periodBegins 221 = .ok (.lastore, 1) := by decide +kernel
theorem dX11_periodBegins_222 : decode cX11_periodBegins 222 = .ok (.aload_n 0, 1) := by decide +kernel
theorem dX11_periodBegins_223 : decode cX11_periodBegins 223 = .ok (.getfield 9, 3) := by decide +kernel
theorem dX11_periodBegins_226 : decode cX11_periodBegins 226 = .ok (.iload_n 2, 1) := by decide +kernel
theorem dX11_periodBegins_227 : decode cX11_periodBegins 227 = .ok (.iconst 3, 1) := by decide +kernel
theorem dX11_periodBegins_228 : decode cX11_periodBegins 228 = .ok (.invokestatic 40, 3) := by decide +kernel
theorem dX11_periodBegins_231 : decode cX11_periodBegins 231 = .ok (.lload 7, 2) := by decide +kernel
theorem dX11_periodBegins_233 : decode cX11_periodBegins 233 = .ok (.lastore, 1) := by decide +kernel
theorem dX11_periodBegins_234 : decode cX11_periodBegins 234 = .ok (.iconst 4, 1) := by decide +kernel
theorem dX11_periodBegins_235 : decode cX11_periodBegins 235 = .ok (.istore 9, 2) := by decide +kernel
theorem dX11_periodBegins_237 : decode cX11_periodBegins 237 = .ok (.iload 9, 2) := by decide +kernel
theorem dX11_periodBegins_239 : decode cX11_periodBegins 239 = .ok (.bipush 7, 2) := by decide +kernel
theorem dX11_periodBegins_241 : decode cX11_periodBegins 241 = .ok (.if_icmp .gt 21, 3) := by decide +kernel
theorem dX11_periodBegins_244 : decode cX11_periodBegins 244 = .ok (.aload_n 0, 1) := by decide +kernel
theorem dX11_periodBegins_245 : decode cX11_periodBegins 245 = .ok (.getfield 9, 3) := by decide +kernel
theorem dX11_periodBegins_248 : decode cX11_periodBegins 248 = .ok (.iload_n 2, 1) := by decide +kernel
theorem dX11_periodBegins_249 : decode cX11_periodBegins 249 = .ok (.iload 9, 2) := by decide +kernel
theorem dX11_periodBegins_251 : decode cX11_periodBegins 251 = .ok (.invokestatic 40, 3) := by decide +kernel
theorem dX11_periodBegins_254 : decode cX11_periodBegins 254 = .ok (.lconst 0, 1) := by decide +kernel
theorem dX11_periodBegins_255 : decode cX11_periodBegins 255 = .ok (.lastore, 1) := by decide +kernel
theorem dX11_periodBegins_256 : decode cX11_periodBegins 256 = .ok (.iinc 9 1, 3) := by decide +kernel
theorem dX11_periodBegins_259 : decode cX11_periodBegins 259 = .ok (.goto (-22), 3) := by decide +kernel
theorem dX11_periodBegins_262 : decode cX11_periodBegins 262 = .ok (.iinc 2 1, 3) := by decide +kernel
theorem dX11_periodBegins_265 : decode cX11_periodBegins 265 = .ok (.goto (-241), 3) := by decide +kernel
theorem dX11_periodBegins_268 : decode cX11_periodBegins 268 = .ok (.return_, 1) := by decide +kernel
theorem dX11_yearBegins_0 : decode cX11_yearBegins 0 = .ok (.iconst 0, 1) := by decide +kernel
theorem dX11_yearBegins_1 : decode cX11_yearBegins 1 = .ok (.istore_n 1, 1) := by decide +kernel
theorem dX11_yearBegins_2 : decode cX11_yearBegins 2 = .ok (.iload_n 1, 1) := by decide +kernel
theorem dX11_yearBegins_3 : decode cX11_yearBegins 3 = .ok (.aload_n 0, 1) := by decide +kernel
theorem dX11_yearBegins_4 : decode cX11_yearBegins 4 = .ok (.bipush 7, 2) := by decide +kernel
theorem dX11_yearBegins_6 : decode cX11_yearBegins 6 = .ok (.invokevirtual 164, 3) := by decide +kernel
theorem dX11_yearBegins_9 : decode cX11_yearBegins 9 = .ok (.if_icmp .ge 101, 3) := by decide +kernel
theorem dX11_yearBegins_12 : decode cX11_yearBegins 12 = .ok (.iconst 0, 1) := by decide +kernel
theorem dX11_yearBegins_13 : decode cX11_yearBegins 13 = .ok (.istore_n 2, 1) := by decide +kernel
theorem dX11_yearBegins_14 : decode cX11_yearBegins 14 = .ok (.iload_n 2, 1) := by decide +kernel
theorem dX11_yearBegins_15 : decode cX11_yearBegins 15 = .ok (.aload_n 0, 1) := by decide +kernel
theorem dX11_yearBegins_16 : decode cX11_yearBegins 16 = .ok (.bipush 6, 2) := by decide +kernel
theorem dX11_yearBegins_18 : decode cX11_yearBegins 18 = .ok (.invokevirtual 164, 3) := by decide +kernel
theorem dX11_yearBegins_21 : decode cX11_yearBegins 21 = .ok (.if_icmp .ge 83, 3) := by decide +kernel
theorem dX11_yearBegins_24 : decode cX11_yearBegins 24 = .ok (.iconst 2, 1) := by decide +kernel
theorem dX11_yearBegins_25 : decode cX11_yearBegins 25 = .ok (.istore_n 3, 1) := by decide +kernel
theorem dX11_yearBegins_26 : decode cX11_yearBegins 26 = .ok (.iload_n 3, 1) := by decide +kernel
theorem dX11_yearBegins_27 : decode cX11_yearBegins 27 = .ok (.ifCond .le 37, 3) := by decide +kernel
theorem dX11_yearBegins_30 : decode cX11_yearBegins 30 = .ok (.aload_n 0, 1) := by decide +kernel
theorem dX11_yearBegins_31 : decode cX11_yearBegins 31 = .ok (.getfield 9, 3) := by decide +kernel
theorem dX11_yearBegins_34 : decode cX11_yearBegins 34 = .ok (.iload_n 1, 1) := by decide +kernel
theorem dX11_yearBegins_35 : decode cX11_yearBegins 35 = .ok (.iload_n 2, 1) := by decide +kernel
theorem dX11_yearBegins_36 : decode cX11_yearBegins 36 = .ok (.iconst 0, 1) := by decide +kernel
theorem dX11_yearBegins_37 : decode cX11_yearBegins 37 = .ok (.iload_n 3, 1) := by decide +kernel
theorem dX11_yearBegins_38 : decode cX11_yearBegins 38 = .ok (.iadd, 1) := by decide +kernel
theorem dX11_yearBegins_39 : decode cX11_yearBegins 39 = .ok (.invokestatic 44, 3) := by decide +kernel
theorem dX11_yearBegins_42 : decode cX11_yearBegins 42 = .ok (.aload_n 0, 1) := by decide +kernel
theorem dX11_yearBegins_43 : decode cX11_yearBegins 43 = .ok (.getfield 9, 3) := by decide +kernel
theorem dX11_yearBegins_46 : decode cX11_yearBegins 46 = .ok (.iload_n 1, 1) := by decide +kernel
theorem dX11_yearBegins_47 : decode cX11_yearBegins 47 = .ok (.iload_n 2, 1) := by decide +kernel
theorem dX11_yearBegins_48 : decode cX11_yearBegins 48 = .ok (.iconst 0, 1) := by decide +kernel
theorem dX11_yearBegins_49 : decode cX11_yearBegins 49 = .ok (.iload_n 3, 1) := by decide +kernel
theorem dX11_yearBegins_50 : decode cX11_yearBegins 50 = .ok (.iadd, 1) := by decide +kernel
theorem dX11_yearBegins_51 : decode cX11_yearBegins 51 = .ok (.iconst 1, 1) := by decide +kernel
theorem dX11_yearBegins_52 : decode cX11_yearBegins 52 = .ok (.isub, 1) := by decide +kernel
theorem dX11_yearBegins_53 : decode cX11_yearBegins 53 = .ok (.invokestatic 44, 3) := by decide +kernel
theorem dX11_yearBegins_56 : decode cX11_yearBegins 56 = .ok (.laload, 1) := by decide +kernel
theorem dX11_yearBegins_57 : decode cX11_yearBegins 57 = .ok (.lastore, 1) := by decide +kernel
theorem dX11_yearBegins_58 : decode cX11_yearBegins 58 = .ok (.iinc 3 (-1), 3) := by decide +kernel
theorem dX11_yearBegins_61 : decode cX11_yearBegins 61 = .ok (.goto (-35), 3) := by decide +kernel
theorem dX11_yearBegins_64 : decode cX11_yearBegins 64 = .ok (.aload_n 0, 1) := by decide +kernel
theorem dX11_yearBegins_65 : decode cX11_yearBegins 65 = .ok (.getfield 9, 3) := by decide +kernel
theorem dX11_yearBegins_68 : decode cX11_yearBegins 68 = .ok (.iload_n 1, 1) := by decide +kernel
theorem dX11_yearBegins_69 : decode cX11_yearBegins 69 = .ok (.iload_n 2, 1) := by decide +kernel
theorem dX11_yearBegins_70 : decode cX11_yearBegins 70 = .ok (.iconst 0, 1) := by decide +kernel
theorem dX11_yearBegins_71 : decode cX11_yearBegins 71 = .ok (.invokestatic 44, 3) := by decide +kernel
theorem dX11_yearBegins_74 : decode cX11_yearBegins 74 = .ok (.aload_n 0, 1) := by decide +kernel
theorem dX11_yearBegins_75 : decode cX11_yearBegins 75 = .ok (.getfield 9, 3) := by decide +kernel
theorem dX11_yearBegins_78 : decode cX11_yearBegins 78 = .ok (.iload_n 1, 1) := by decide +kernel
theorem dX11_yearBegins_79 : decode cX11_yearBegins 79 = .ok (.iload_n 2, 1) := by decide +kernel
theorem dX11_yearBegins_80 : decode cX11_yearBegins 80 = .ok (.iconst 3, 1) := by decide +kernel
theorem dX11_yearBegins_81 : decode cX11_yearBegins 81 = .ok (.invokestatic 44, 3) := by decide +kernel
theorem dX11_yearBegins_84 : decode cX11_yearBegins 84 = .ok (.laload, 1) := by decide +kernel
theorem dX11_yearBegins_85 : decode cX11_yearBegins 85 = .ok (.lastore, 1) := by decide +kernel
theorem dX11_yearBegins_86 : decode cX11_yearBegins 86 = .ok (.aload_n 0, 1) := by decide +kernel
theorem dX11_yearBegins_87 : decode cX11_yearBegins 87 = .ok (.getfield 9, 3) := by decide +kernel
theorem dX11_yearBegins_90 : decode cX11_yearBegins 90 = .ok (.iload_n 1, 1) := by decide +kernel
theorem dX11_yearBegins_91 : decode cX11_yearBegins 91 = .ok (.iload_n 2, 1) := by decide +kernel
theorem dX11_yearBegins_92 : decode cX11_yearBegins 92 = .ok (.iconst 3, 1) := by decide +kernel
theorem dX11_yearBegins_93 : decode cX11_yearBegins 93 = .ok (.invokestatic 44, 3) := by decide +kernel
theorem dX11_yearBegins_96 : decode cX11_yearBegins 96 = .ok (.lconst 0, 1) := by decide +kernel
theorem dX11_yearBegins_97 : decode cX11_yearBegins 97 = .ok (.lastore, 1) := by decide +kernel
theorem dX11_yearBegins_98 : decode cX11_yearBegins 98 = .ok (.iinc 2 1, 3) := by decide +kernel
theorem dX11_yearBegins_101 : decode cX11_yearBegins 101 = .ok (.goto (-87), 3) := by decide +kernel
theorem dX11_yearBegins_104 : decode cX11_yearBegins 104 = .ok (.iinc 1 1, 3) := by decide +kernel
theorem dX11_yearBegins_107 : decode cX11_yearBegins 107 = .ok (.goto (-105), 3) := by decide +kernel
theorem dX11_yearBegins_110 : decode cX11_yearBegins 110 = .ok (.sipush 312, 3) := by decide +kernel
theorem dX11_yearBegins_113 : decode cX11_yearBegins 113 = .ok (.istore_n 1, 1) := by decide +kernel
theorem dX11_yearBegins_114 : decode cX11_yearBegins 114 = .ok (.iload_n 1, 1) := by decide +kernel
theorem dX11_yearBegins_115 : decode cX11_yearBegins 115 = .ok (.sipush 456, 3) := by decide +kernel
theorem dX11_yearBegins_118 : decode cX11_yearBegins 118 = .ok (.if_icmp .ge 16, 3) := by decide +kernel
theorem dX11_yearBegins_121 : decode cX11_yearBegins 121 = .ok (.aload_n 0, 1) := by decide +kernel
theorem dX11_yearBegins_122 : decode cX11_yearBegins 122 = .ok (.getfield 9, 3) := by decide +kernel
theorem dX11_yearBegins_125 : decode cX11_yearBegins 125 = .ok (.iload_n 1, 1) := by decide +kernel
theorem dX11_yearBegins_126 : decode cX11_yearBegins 126 = .ok (.lconst 0, 1) := by decide +kernel
theorem dX11_yearBegins_127 : decode cX11_yearBegins 127 = .ok (.lastore, 1) := by decide +kernel
theorem dX11_yearBegins_128 : decode cX11_yearBegins 128 = .ok (.iinc 1 1, 3) := by decide +kernel
theorem dX11_yearBegins_131 : decode cX11_yearBegins 131 = .ok (.goto (-17), 3) := by decide +kernel
theorem dX11_yearBegins_134 : decode cX11_yearBegins 134 = .ok (.return_, 1) := by decide +kernel
theorem dX11_logs_0 : decode cX11_logs 0 = .ok (.bipush 20, 2) := by decide +kernel
theorem dX11_logs_2 : decode cX11_logs 2 = .ok (.istore_n 1, 1) := by decide +kernel
theorem dX11_logs_3 : decode cX11_logs 3 = .ok (.sipush 1056, 3) := by decide +kernel
theorem dX11_logs_6 : decode cX11_logs 6 = .ok (.bipush 8, 2) := by decide +kernel
theorem dX11_logs_8 : decode cX11_logs 8 = .ok (.iload_n 1, 1) := by decide +kernel
theorem dX11_logs_9 : decode cX11_logs 9 = .ok (.imul, 1) := by decide +kernel
theorem dX11_logs_10 : decode cX11_logs 10 = .ok (.iadd, 1) := by decide +kernel
theorem dX11_logs_11 : decode cX11_logs 11 = .ok (.iconst 1, 1) := by decide +kernel
theorem dX11_logs_12 : decode cX11_logs 12 = .ok (.isub, 1) := by decide +kernel
theorem dX11_logs_13 : decode cX11_logs 13 = .ok (.istore_n 2, 1) := by decide +kernel
theorem dX11_logs_14 : decode cX11_logs 14 = .ok (.iload_n 2, 1) := by decide +kernel
theorem dX11_logs_15 : decode cX11_logs 15 = .ok (.sipush 1056, 3) := by decide +kernel
theorem dX11_logs_18 : decode cX11_logs 18 = .ok (.iload_n 1, 1) := by decide +kernel
theorem dX11_logs_19 : decode cX11_logs 19 = .ok (.iadd, 1) := by decide +kernel
theorem dX11_logs_20 : decode cX11_logs 20 = .ok (.if_icmp .lt 23, 3) := by decide +kernel
theorem dX11_logs_23 : decode cX11_logs 23 = .ok (.aload_n 0, 1) := by decide +kernel
theorem dX11_logs_24 : decode cX11_logs 24 = .ok (.getfield 9, 3) := by decide +kernel
theorem dX11_logs_27 : decode cX11_logs 27 = .ok (.iload_n 2, 1) := by decide +kernel
theorem dX11_logs_28 : decode cX11_logs 28 = .ok (.aload_n 0, 1) := by decide +kernel
theorem dX11_logs_29 : decode cX11_logs 29 = .ok (.getfield 9, 3) := by decide +kernel
theorem dX11_logs_32 : decode cX11_logs 32 = .ok (.iload_n 2, 1) := by decide +kernel
theorem dX11_logs_33 : decode cX11_logs 33 = .ok (.iload_n 1, 1) := by decide +kernel
theorem dX11_logs_34 : decode cX11_logs 34 = .ok (.isub, 1) := by decide +kernel
theorem dX11_logs_35 : decode cX11_logs 35 = .ok (.laload, 1) := by decide +kernel
theorem dX11_logs_36 : decode cX11_logs 36 = .ok (.lastore, 1) := by decide +kernel
theorem dX11_logs_37 : decode cX11_logs 37 = .ok (.iinc 2 (-1), 3) := by decide +kernel
theorem dX11_logs_40 : decode cX11_logs 40 = .ok (.goto (-26), 3) := by decide +kernel
theorem dX11_logs_43 : decode cX11_logs 43 = .ok (.iconst 0, 1) := by decide +kernel
theorem dX11_logs_44 : decode cX11_logs 44 = .ok (.istore_n 2, 1) := by decide +kernel
theorem dX11_logs_45 : decode cX11_logs 45 = .ok (.iload_n 2, 1) := by decide +kernel
theorem dX11_logs_46 : decode cX11_logs 46 = .ok (.iconst 4, 1) := by decide +kernel
theorem dX11_logs_47 : decode cX11_logs 47 = .ok (.if_icmp .ge 106, 3) := by decide +kernel
theorem dX11_logs_50 : decode cX11_logs 50 = .ok (.sipush 1056, 3) := by decide +kernel
theorem dX11_logs_53 : decode cX11_logs 53 = .ok (.iconst 5, 1) := by decide +kernel
theorem dX11_logs_54 : decode cX11_logs 54 = .ok (.iload_n 2, 1) := by decide +kernel
theorem dX11_logs_55 : decode cX11_logs 55 = .ok (.imul, 1) := by decide +kernel
theorem dX11_logs_56 : decode cX11_logs 56 = .ok (.iadd, 1) := by decide +kernel
theorem dX11_logs_57 : decode cX11_logs 57 = .ok (.istore_n 3, 1) := by decide +kernel
theorem dX11_logs_58 : decode cX11_logs 58 = .ok (.aload_n 0, 1) := by decide +kernel
theorem dX11_logs_59 : decode cX11_logs 59 = .ok (.getfield 9, 3) := by decide +kernel
theorem dX11_logs_62 : decode cX11_logs 62 = .ok (.iload_n 3, 1) := by decide +kernel
theorem dX11_logs_63 : decode cX11_logs 63 = .ok (.aload_n 0, 1) := by decide +kernel
theorem dX11_logs_64 : decode cX11_logs 64 = .ok (.getfield 9, 3) := by decide +kernel
theorem dX11_logs_67 : decode cX11_logs 67 = .ok (.iload_n 2, 1) := by decide +kernel
theorem dX11_logs_68 : decode cX11_logs 68 = .ok (.iconst 1, 1) := by decide +kernel
theorem dX11_logs_69 : decode cX11_logs 69 = .ok (.invokestatic 40, 3) := by decide +kernel
theorem dX11_logs_72 : decode cX11_logs 72 = .ok (.laload, 1) := by decide +kernel
theorem dX11_logs_73 : decode cX11_logs 73 = .ok (.lastore, 1) := by decide +kernel
theorem dX11_logs_74 : decode cX11_logs 74 = .ok (.aload_n 0, 1) := by decide +kernel
theorem dX11_logs_75 : decode cX11_logs 75 = .ok (.getfield 9, 3) := by decide +kernel
theorem dX11_logs_78 : decode cX11_logs 78 = .ok (.iload_n 3, 1) := by decide +kernel
theorem dX11_logs_79 : decode cX11_logs 79 = .ok (.iconst 1, 1) := by decide +kernel
theorem dX11_logs_80 : decode cX11_logs 80 = .ok (.iadd, 1) := by decide +kernel
theorem dX11_logs_81 : decode cX11_logs 81 = .ok (.aload_n 0, 1) := by decide +kernel
theorem dX11_logs_82 : decode cX11_logs 82 = .ok (.getfield 9, 3) := by decide +kernel
theorem dX11_logs_85 : decode cX11_logs 85 = .ok (.iload_n 2, 1) := by decide +kernel
theorem dX11_logs_86 : decode cX11_logs 86 = .ok (.iconst 2, 1) := by decide +kernel
theorem dX11_logs_87 : decode cX11_logs 87 = .ok (.invokestatic 40, 3) := by decide +kernel
theorem dX11_logs_90 : decode cX11_logs 90 = .ok (.laload, 1) := by decide +kernel
theorem dX11_logs_91 : decode cX11_logs 91 = .ok (.lastore, 1) := by decide +kernel
theorem dX11_logs_92 : decode cX11_logs 92 = .ok (.aload_n 0, 1) := by decide +kernel
theorem dX11_logs_93 : decode cX11_logs 93 = .ok (.getfield 9, 3) := by decide +kernel
theorem dX11_logs_96 : decode cX11_logs 96 = .ok (.iload_n 3, 1) := by decide +kernel
theorem dX11_logs_97 : decode cX11_logs 97 = .ok (.iconst 2, 1) := by decide +kernel
theorem dX11_logs_98 : decode cX11_logs 98 = .ok (.iadd, 1) := by decide +kernel
theorem dX11_logs_99 : decode cX11_logs 99 = .ok (.aload_n 0, 1) := by decide +kernel
theorem dX11_logs_100 : decode cX11_logs 100 = .ok (.getfield 9, 3) := by decide +kernel
theorem dX11_logs_103 : decode cX11_logs 103 = .ok (.iload_n 2, 1) := by decide +kernel
theorem dX11_logs_104 : decode cX11_logs 104 = .ok (.iconst 4, 1) := by decide +kernel
theorem dX11_logs_105 : decode cX11_logs 105 = .ok (.invokestatic 40, 3) := by decide +kernel
theorem dX11_logs_108 : decode cX11_logs 108 = .ok (.laload, 1) := by decide +kernel
theorem dX11_logs_109 : decode cX11_logs 109 = .ok (.lastore, 1) := by decide +kernel
theorem dX11_logs_110 : decode cX11_logs 110 = .ok (.aload_n 0, 1) := by decide +kernel
theorem dX11_logs_111 : decode cX11_logs 111 = .ok (.getfield 9, 3) := by decide +kernel
theorem dX11_logs_114 : decode cX11_logs 114 = .ok (.iload_n 3, 1) := by decide +kernel
theorem dX11_logs_115 : decode cX11_logs 115 = .ok (.iconst 3, 1) := by decide +kernel
theorem dX11_logs_116 : decode cX11_logs 116 = .ok (.iadd, 1) := by decide +kernel
theorem dX11_logs_117 : decode cX11_logs 117 = .ok (.aload_n 0, 1) := by decide +kernel
theorem dX11_logs_118 : decode cX11_logs 118 = .ok (.getfield 9, 3) := by decide +kernel
theorem dX11_logs_121 : decode cX11_logs 121 = .ok (.iload_n 2, 1) := by decide +kernel
theorem dX11_logs_122 : decode cX11_logs 122 = .ok (.iconst 5, 1) := by decide +kernel
theorem dX11_logs_123 : decode cX11_logs 123 = .ok (.invokestatic 40, 3) := by decide +kernel
theorem dX11_logs_126 : decode cX11_logs 126 = .ok (.laload, 1) := by decide +kernel
theorem dX11_logs_127 : decode cX11_logs 127 = .ok (.lastore, 1) := by decide +kernel
theorem dX11_logs_128 : decode cX11_logs 128 = .ok (.aload_n 0, 1) := by decide +kernel
theorem dX11_logs_129 : decode cX11_logs 129 = .ok (.getfield 9, 3) := by decide +kernel
theorem dX11_logs_132 : decode cX11_logs 132 = .ok (.iload_n 3, 1) := by decide +kernel
theorem dX11_logs_133 : decode cX11_logs 133 = .ok (.iconst 4, 1) := by decide +kernel
theorem dX11_logs_134 : decode cX11_logs 134 = .ok (.iadd, 1) := by decide +kernel
theorem dX11_logs_135 : decode cX11_logs 135 = .ok (.aload_n 0, 1) := by decide +kernel
theorem dX11_logs_136 : decode cX11_logs 136 = .ok (.getfield 9, 3) := by decide +kernel
theorem dX11_logs_139 : decode cX11_logs 139 = .ok (.iload_n 2, 1) := by decide +kernel
theorem dX11_logs_140 : decode cX11_logs 140 = .ok (.bipush 6, 2) := by decide +kernel
theorem dX11_logs_142 : decode cX11_logs 142 = .ok (.invokestatic 40, 3) := by decide +kernel
theorem dX11_logs_145 : decode cX11_logs 145 = .ok (.laload, 1) := by decide +kernel
theorem dX11_logs_146 : decode cX11_logs 146 = .ok (.lastore, 1) := by decide +kernel
theorem dX11_logs_147 : decode cX11_logs 147 = .ok (.iinc 2 1, 3) := by decide +kernel
theorem dX11_logs_150 : decode cX11_logs 150 = .ok (.goto (-105), 3) := by decide +kernel
theorem dX11_logs_153 : decode cX11_logs 153 = .ok (.aload_n 0, 1) := by decide +kernel
theorem dX11_logs_154 : decode cX11_logs 154 = .ok (.getfield 9, 3) := by decide +kernel
theorem dX11_logs_157 : decode cX11_logs 157 = .ok (.bipush 10, 2) := by decide +kernel
theorem dX11_logs_159 : decode cX11_logs 159 = .ok (.ldc2_w 133, 3) := by decide +kernel
theorem dX11_logs_162 : decode cX11_logs 162 = .ok (.aload_n 0, 1) := by decide +kernel
theorem dX11_logs_163 : decode cX11_logs 163 = .ok (.getfield 9, 3) := by decide +kernel
theorem dX11_logs_166 : decode cX11_logs 166 = .ok (.bipush 10, 2) := by decide +kernel
theorem dX11_logs_168 : decode cX11_logs 168 = .ok (.laload, 1) := by decide +kernel
theorem dX11_logs_169 : decode cX11_logs 169 = .ok (.lconst 1, 1) := by decide +kernel
theorem dX11_logs_170 : decode cX11_logs 170 = .ok (.ladd, 1) := by decide +kernel
theorem dX11_logs_171 : decode cX11_logs 171 = .ok (.invokestatic 193, 3) := by decide +kernel
theorem dX11_logs_174 : decode cX11_logs 174 = .ok (.lastore, 1) := by decide +kernel
theorem dX11_logs_175 : decode cX11_logs 175 = .ok (.return_, 1) := by decide +kernel
theorem dX11_isOpen_0 : decode cX11_isOpen 0 = .ok (.aload_n 0, 1) := by decide +kernel
theorem dX11_isOpen_1 : decode cX11_isOpen 1 = .ok (.iload_n 1, 1) := by decide +kernel
theorem dX11_isOpen_2 : decode cX11_isOpen 2 = .ok (.iconst 5, 1) := by decide +kernel
theorem dX11_isOpen_3 : decode cX11_isOpen 3 = .ok (.invokevirtual 196, 3) := by decide +kernel
theorem dX11_isOpen_6 : decode cX11_isOpen 6 = .ok (.ifCond .ne 7, 3) := by decide +kernel
theorem dX11_isOpen_9 : decode cX11_isOpen 9 = .ok (.iconst 1, 1) := by decide +kernel
theorem dX11_isOpen_10 : decode cX11_isOpen 10 = .ok (.goto 4, 3) := by decide +kernel
theorem dX11_isOpen_13 : decode cX11_isOpen 13 = .ok (.iconst 0, 1) := by decide +kernel
theorem dX11_isOpen_14 : decode cX11_isOpen 14 = .ok (.ireturn, 1) := by decide +kernel
theorem dX11_leftOf_0 : decode cX11_leftOf 0 = .ok (.aload_n 0, 1) := by decide +kernel
theorem dX11_leftOf_1 : decode cX11_leftOf 1 = .ok (.iload_n 1, 1) := by decide +kernel
theorem dX11_leftOf_2 : decode cX11_leftOf 2 = .ok (.invokevirtual 199, 3) := by decide +kernel
theorem dX11_leftOf_5 : decode cX11_leftOf 5 = .ok (.ifCond .eq 19, 3) := by decide +kernel
theorem dX11_leftOf_8 : decode cX11_leftOf 8 = .ok (.aload_n 0, 1) := by decide +kernel
theorem dX11_leftOf_9 : decode cX11_leftOf 9 = .ok (.iload_n 1, 1) := by decide +kernel
theorem dX11_leftOf_10 : decode cX11_leftOf 10 = .ok (.iconst 2, 1) := by decide +kernel
theorem dX11_leftOf_11 : decode cX11_leftOf 11 = .ok (.invokevirtual 196, 3) := by decide +kernel
theorem dX11_leftOf_14 : decode cX11_leftOf 14 = .ok (.aload_n 0, 1) := by decide +kernel
theorem dX11_leftOf_15 : decode cX11_leftOf 15 = .ok (.iload_n 1, 1) := by decide +kernel
theorem dX11_leftOf_16 : decode cX11_leftOf 16 = .ok (.iconst 4, 1) := by decide +kernel
theorem dX11_leftOf_17 : decode cX11_leftOf 17 = .ok (.invokevirtual 196, 3) := by decide +kernel
theorem dX11_leftOf_20 : decode cX11_leftOf 20 = .ok (.isub, 1) := by decide +kernel
theorem dX11_leftOf_21 : decode cX11_leftOf 21 = .ok (.goto 4, 3) := by decide +kernel
theorem dX11_leftOf_24 : decode cX11_leftOf 24 = .ok (.iconst 0, 1) := by decide +kernel
theorem dX11_leftOf_25 : decode cX11_leftOf 25 = .ok (.ireturn, 1) := by decide +kernel
theorem dX11_ends_0 : decode cX11_ends 0 = .ok (.aload_n 0, 1) := by decide +kernel
theorem dX11_ends_1 : decode cX11_ends 1 = .ok (.getfield 9, 3) := by decide +kernel
theorem dX11_ends_4 : decode cX11_ends 4 = .ok (.iload_n 1, 1) := by decide +kernel
theorem dX11_ends_5 : decode cX11_ends 5 = .ok (.iconst 5, 1) := by decide +kernel
theorem dX11_ends_6 : decode cX11_ends 6 = .ok (.invokestatic 48, 3) := by decide +kernel
theorem dX11_ends_9 : decode cX11_ends 9 = .ok (.iload_n 2, 1) := by decide +kernel
theorem dX11_ends_10 : decode cX11_ends 10 = .ok (.i2l, 1) := by decide +kernel
theorem dX11_ends_11 : decode cX11_ends 11 = .ok (.lastore, 1) := by decide +kernel
theorem dX11_ends_12 : decode cX11_ends 12 = .ok (.aload_n 0, 1) := by decide +kernel
theorem dX11_ends_13 : decode cX11_ends 13 = .ok (.getfield 9, 3) := by decide +kernel
theorem dX11_ends_16 : decode cX11_ends 16 = .ok (.iload_n 1, 1) := by decide +kernel
theorem dX11_ends_17 : decode cX11_ends 17 = .ok (.bipush 7, 2) := by decide +kernel
theorem dX11_ends_19 : decode cX11_ends 19 = .ok (.invokestatic 48, 3) := by decide +kernel
theorem dX11_ends_22 : decode cX11_ends 22 = .ok (.aload_n 0, 1) := by decide +kernel
theorem dX11_ends_23 : decode cX11_ends 23 = .ok (.getfield 9, 3) := by decide +kernel
theorem dX11_ends_26 : decode cX11_ends 26 = .ok (.bipush 9, 2) := by decide +kernel
theorem dX11_ends_28 : decode cX11_ends 28 = .ok (.laload, 1) := by decide +kernel
theorem dX11_ends_29 : decode cX11_ends 29 = .ok (.lastore, 1) := by decide +kernel
theorem dX11_ends_30 : decode cX11_ends 30 = .ok (.return_, 1) := by decide +kernel
theorem dX11_isIdleBy_0 : decode cX11_isIdleBy 0 = .ok (.ldc2_w 174, 3) := by decide +kernel
theorem dX11_isIdleBy_3 : decode cX11_isIdleBy 3 = .ok (.aload_n 0, 1) := by decide +kernel
theorem dX11_isIdleBy_4 : decode cX11_isIdleBy 4 = .ok (.getfield 9, 3) := by decide +kernel
theorem dX11_isIdleBy_7 : decode cX11_isIdleBy 7 = .ok (.iload_n 1, 1) := by decide +kernel
theorem dX11_isIdleBy_8 : decode cX11_isIdleBy 8 = .ok (.iconst 4, 1) := by decide +kernel
theorem dX11_isIdleBy_9 : decode cX11_isIdleBy 9 = .ok (.invokestatic 48, 3) := by decide +kernel
theorem dX11_isIdleBy_12 : decode cX11_isIdleBy 12 = .ok (.laload, 1) := by decide +kernel
theorem dX11_isIdleBy_13 : decode cX11_isIdleBy 13 = .ok (.lmul, 1) := by decide +kernel
theorem dX11_isIdleBy_14 : decode cX11_isIdleBy 14 = .ok (.aload_n 0, 1) := by decide +kernel
theorem dX11_isIdleBy_15 : decode cX11_isIdleBy 15 = .ok (.getfield 9, 3) := by decide +kernel
theorem dX11_isIdleBy_18 : decode cX11_isIdleBy 18 = .ok (.iconst 3, 1) := by decide +kernel
theorem dX11_isIdleBy_19 : decode cX11_isIdleBy 19 = .ok (.laload, 1) := by decide +kernel
theorem dX11_isIdleBy_20 : decode cX11_isIdleBy 20 = .ok (.aload_n 0, 1) := by decide +kernel
theorem dX11_isIdleBy_21 : decode cX11_isIdleBy 21 = .ok (.getfield 9, 3) := by decide +kernel
theorem dX11_isIdleBy_24 : decode cX11_isIdleBy 24 = .ok (.iload_n 1, 1) := by decide +kernel
theorem dX11_isIdleBy_25 : decode cX11_isIdleBy 25 = .ok (.iconst 2, 1) := by decide +kernel
theorem dX11_isIdleBy_26 : decode cX11_isIdleBy 26 = .ok (.invokestatic 48, 3) := by decide +kernel
theorem dX11_isIdleBy_29 : decode cX11_isIdleBy 29 = .ok (.laload, 1) := by decide +kernel
theorem dX11_isIdleBy_30 : decode cX11_isIdleBy 30 = .ok (.lmul, 1) := by decide +kernel
theorem dX11_isIdleBy_31 : decode cX11_isIdleBy 31 = .ok (.lcmp, 1) := by decide +kernel
theorem dX11_isIdleBy_32 : decode cX11_isIdleBy 32 = .ok (.ifCond .ge 7, 3) := by decide +kernel
theorem dX11_isIdleBy_35 : decode cX11_isIdleBy 35 = .ok (.iconst 1, 1) := by decide +kernel
theorem dX11_isIdleBy_36 : decode cX11_isIdleBy 36 = .ok (.goto 4, 3) := by decide +kernel
theorem dX11_isIdleBy_39 : decode cX11_isIdleBy 39 = .ok (.iconst 0, 1) := by decide +kernel
theorem dX11_isIdleBy_40 : decode cX11_isIdleBy 40 = .ok (.ireturn, 1) := by decide +kernel
theorem dX11_isOf_0 : decode cX11_isOf 0 = .ok (.aload_n 0, 1) := by decide +kernel
theorem dX11_isOf_1 : decode cX11_isOf 1 = .ok (.iload_n 1, 1) := by decide +kernel
theorem dX11_isOf_2 : decode cX11_isOf 2 = .ok (.iconst 0, 1) := by decide +kernel
theorem dX11_isOf_3 : decode cX11_isOf 3 = .ok (.invokevirtual 196, 3) := by decide +kernel
theorem dX11_isOf_6 : decode cX11_isOf 6 = .ok (.iload_n 2, 1) := by decide +kernel
theorem dX11_isOf_7 : decode cX11_isOf 7 = .ok (.if_icmp .ne 17, 3) := by decide +kernel
theorem dX11_isOf_10 : decode cX11_isOf 10 = .ok (.aload_n 0, 1) := by decide +kernel
theorem dX11_isOf_11 : decode cX11_isOf 11 = .ok (.iload_n 1, 1) := by decide +kernel
theorem dX11_isOf_12 : decode cX11_isOf 12 = .ok (.iconst 1, 1) := by decide +kernel
theorem dX11_isOf_13 : decode cX11_isOf 13 = .ok (.invokevirtual 196, 3) := by decide +kernel
theorem dX11_isOf_16 : decode cX11_isOf 16 = .ok (.iload_n 3, 1) := by decide +kernel
theorem dX11_isOf_17 : decode cX11_isOf 17 = .ok (.if_icmp .ne 7, 3) := by decide +kernel
theorem dX11_isOf_20 : decode cX11_isOf 20 = .ok (.iconst 1, 1) := by decide +kernel
theorem dX11_isOf_21 : decode cX11_isOf 21 = .ok (.goto 4, 3) := by decide +kernel
theorem dX11_isOf_24 : decode cX11_isOf 24 = .ok (.iconst 0, 1) := by decide +kernel
theorem dX11_isOf_25 : decode cX11_isOf 25 = .ok (.ireturn, 1) := by decide +kernel
theorem dX11_endedLast_0 : decode cX11_endedLast 0 = .ok (.iconst (-1), 1) := by decide +kernel
theorem dX11_endedLast_1 : decode cX11_endedLast 1 = .ok (.istore_n 3, 1) := by decide +kernel
theorem dX11_endedLast_2 : decode cX11_endedLast 2 = .ok (.iconst 0, 1) := by decide +kernel
theorem dX11_endedLast_3 : decode cX11_endedLast 3 = .ok (.istore 4, 2) := by decide +kernel
theorem dX11_endedLast_5 : decode cX11_endedLast 5 = .ok (.iload 4, 2) := by decide +kernel
theorem dX11_endedLast_7 : decode cX11_endedLast 7 = .ok (.aload_n 0, 1) := by decide +kernel
theorem dX11_endedLast_8 : decode cX11_endedLast 8 = .ok (.bipush 8, 2) := by decide +kernel
theorem dX11_endedLast_10 : decode cX11_endedLast 10 = .ok (.invokevirtual 164, 3) := by decide +kernel
theorem dX11_endedLast_13 : decode cX11_endedLast 13 = .ok (.if_icmp .ge 55, 3) := by decide +kernel
theorem dX11_endedLast_16 : decode cX11_endedLast 16 = .ok (.aload_n 0, 1) := by decide +kernel
theorem dX11_endedLast_17 : decode cX11_endedLast 17 = .ok (.iload 4, 2) := by decide +kernel
theorem dX11_endedLast_19 : decode cX11_endedLast 19 = .ok (.iload_n 1, 1) := by decide +kernel
theorem dX11_endedLast_20 : decode cX11_endedLast 20 = .ok (.iload_n 2, 1) := by decide +kernel
theorem dX11_endedLast_21 : decode cX11_endedLast 21 = .ok (.invokevirtual 202, 3) := by decide +kernel
theorem dX11_endedLast_24 : decode cX11_endedLast 24 = .ok (.ifCond .eq 38, 3) := by decide +kernel
theorem dX11_endedLast_27 : decode cX11_endedLast 27 = .ok (.aload_n 0, 1) := by decide +kernel
theorem dX11_endedLast_28 : decode cX11_endedLast 28 = .ok (.iload 4, 2) := by decide +kernel
theorem dX11_endedLast_30 : decode cX11_endedLast 30 = .ok (.invokevirtual 199, 3) := by decide +kernel
theorem dX11_endedLast_33 : decode cX11_endedLast 33 = .ok (.ifCond .ne 29, 3) := by decide +kernel
theorem dX11_endedLast_36 : decode cX11_endedLast 36 = .ok (.iload_n 3, 1) := by decide +kernel
theorem dX11_endedLast_37 : decode cX11_endedLast 37 = .ok (.iconst (-1), 1) := by decide +kernel
theorem dX11_endedLast_38 : decode cX11_endedLast 38 = .ok (.if_icmp .eq 21, 3) := by decide +kernel
theorem dX11_endedLast_41 : decode cX11_endedLast 41 = .ok (.aload_n 0, 1) := by decide +kernel
theorem dX11_endedLast_42 : decode cX11_endedLast 42 = .ok (.iload 4, 2) := by decide +kernel
theorem dX11_endedLast_44 : decode cX11_endedLast 44 = .ok (.bipush 7, 2) := by decide +kernel
theorem dX11_endedLast_46 : decode cX11_endedLast 46 = .ok (.invokevirtual 196, 3) := by decide +kernel
theorem dX11_endedLast_49 : decode cX11_endedLast 49 = .ok (.aload_n 0, 1) := by decide +kernel
theorem dX11_endedLast_50 : decode cX11_endedLast 50 = .ok (.iload_n 3, 1) := by decide +kernel
theorem dX11_endedLast_51 : decode cX11_endedLast 51 = .ok (.bipush 7, 2) := by decide +kernel
theorem dX11_endedLast_53 : decode cX11_endedLast 53 = .ok (.invokevirtual 196, 3) := by decide +kernel
theorem dX11_endedLast_56 : decode cX11_endedLast 56 = .ok (.if_icmp .lt 6, 3) := by decide +kernel
theorem dX11_endedLast_59 : decode cX11_endedLast 59 = .ok (.iload 4, 2) := by decide +kernel
theorem dX11_endedLast_61 : decode cX11_endedLast 61 = .ok (.istore_n 3, 1) := by decide +kernel
theorem dX11_endedLast_62 : decode cX11_endedLast 62 = .ok (.iinc 4 1, 3) := by decide +kernel
theorem dX11_endedLast_65 : decode cX11_endedLast 65 = .ok (.goto (-60), 3) := by decide +kernel
theorem dX11_endedLast_68 : decode cX11_endedLast 68 = .ok (.iload_n 3, 1) := by decide +kernel
theorem dX11_endedLast_69 : decode cX11_endedLast 69 = .ok (.ireturn, 1) := by decide +kernel
theorem dX11_wasIdle_0 : decode cX11_wasIdle 0 = .ok (.aload_n 0, 1) := by decide +kernel
theorem dX11_wasIdle_1 : decode cX11_wasIdle 1 = .ok (.iload_n 1, 1) := by decide +kernel
theorem dX11_wasIdle_2 : decode cX11_wasIdle 2 = .ok (.iload_n 2, 1) := by decide +kernel
theorem dX11_wasIdle_3 : decode cX11_wasIdle 3 = .ok (.invokevirtual 206, 3) := by decide +kernel
theorem dX11_wasIdle_6 : decode cX11_wasIdle 6 = .ok (.istore_n 3, 1) := by decide +kernel
theorem dX11_wasIdle_7 : decode cX11_wasIdle 7 = .ok (.iload_n 3, 1) := by decide +kernel
theorem dX11_wasIdle_8 : decode cX11_wasIdle 8 = .ok (.iconst (-1), 1) := by decide +kernel
theorem dX11_wasIdle_9 : decode cX11_wasIdle 9 = .ok (.if_icmp .eq 15, 3) := by decide +kernel
theorem dX11_wasIdle_12 : decode cX11_wasIdle 12 = .ok (.aload_n 0, 1) := by decide +kernel
theorem dX11_wasIdle_13 : decode cX11_wasIdle 13 = .ok (.iload_n 3, 1) := by decide +kernel
theorem dX11_wasIdle_14 : decode cX11_wasIdle 14 = .ok (.invokevirtual 209, 3) := by decide +kernel
theorem dX11_wasIdle_17 : decode cX11_wasIdle 17 = .ok (.ifCond .eq 7, 3) := by decide +kernel
theorem dX11_wasIdle_20 : decode cX11_wasIdle 20 = .ok (.iconst 1, 1) := by decide +kernel
theorem dX11_wasIdle_21 : decode cX11_wasIdle 21 = .ok (.goto 4, 3) := by decide +kernel
theorem dX11_wasIdle_24 : decode cX11_wasIdle 24 = .ok (.iconst 0, 1) := by decide +kernel
theorem dX11_wasIdle_25 : decode cX11_wasIdle 25 = .ok (.ireturn, 1) := by decide +kernel
theorem dX11_isOfThisPeriod_0 : decode cX11_isOfThisPeriod 0 = .ok (.aload_n 0, 1) := by decide +kernel
theorem dX11_isOfThisPeriod_1 : decode cX11_isOfThisPeriod 1 = .ok (.getfield 9, 3) := by decide +kernel
theorem dX11_isOfThisPeriod_4 : decode cX11_isOfThisPeriod 4 = .ok (.iload_n 1, 1) := by decide +kernel
theorem dX11_isOfThisPeriod_5 : decode cX11_isOfThisPeriod 5 = .ok (.iconst 3, 1) := by decide +kernel
theorem dX11_isOfThisPeriod_6 : decode cX11_isOfThisPeriod 6 = .ok (.invokestatic 48, 3) := by decide +kernel
theorem dX11_isOfThisPeriod_9 : decode cX11_isOfThisPeriod 9 = .ok (.laload, 1) := by decide +kernel
theorem dX11_isOfThisPeriod_10 : decode cX11_isOfThisPeriod 10 = .ok (.ldc2_w 212, 3) := by decide +kernel
theorem dX11_isOfThisPeriod_13 : decode cX11_isOfThisPeriod 13 = .ok (.ldiv, 1) := by decide +kernel
theorem dX11_isOfThisPeriod_14 : decode cX11_isOfThisPeriod 14 = .ok (.aload_n 0, 1) := by decide +kernel
theorem dX11_isOfThisPeriod_15 : decode cX11_isOfThisPeriod 15 = .ok (.getfield 9, 3) := by decide +kernel
theorem dX11_isOfThisPeriod_18 : decode cX11_isOfThisPeriod 18 = .ok (.bipush 9, 2) := by decide +kernel
theorem dX11_isOfThisPeriod_20 : decode cX11_isOfThisPeriod 20 = .ok (.laload, 1) := by decide +kernel
theorem dX11_isOfThisPeriod_21 : decode cX11_isOfThisPeriod 21 = .ok (.ldc2_w 212, 3) := by decide +kernel
theorem dX11_isOfThisPeriod_24 : decode cX11_isOfThisPeriod 24 = .ok (.ldiv, 1) := by decide +kernel
theorem dX11_isOfThisPeriod_25 : decode cX11_isOfThisPeriod 25 = .ok (.lcmp, 1) := by decide +kernel
theorem dX11_isOfThisPeriod_26 : decode cX11_isOfThisPeriod 26 = .ok (.ifCond .ne 7, 3) := by decide +kernel
theorem dX11_isOfThisPeriod_29 : decode cX11_isOfThisPeriod 29 = .ok (.iconst 1, 1) := by decide +kernel
theorem dX11_isOfThisPeriod_30 : decode cX11_isOfThisPeriod 30 = .ok (.goto 4, 3) := by decide +kernel
theorem dX11_isOfThisPeriod_33 : decode cX11_isOfThisPeriod 33 = .ok (.iconst 0, 1) := by decide +kernel
theorem dX11_isOfThisPeriod_34 : decode cX11_isOfThisPeriod 34 = .ok (.ireturn, 1) := by decide +kernel
theorem dX11_comesBack_0 : decode cX11_comesBack 0 = .ok (.aload_n 0, 1) := by decide +kernel
theorem dX11_comesBack_1 : decode cX11_comesBack 1 = .ok (.iload_n 1, 1) := by decide +kernel
theorem dX11_comesBack_2 : decode cX11_comesBack 2 = .ok (.invokevirtual 214, 3) := by decide +kernel
theorem dX11_comesBack_5 : decode cX11_comesBack 5 = .ok (.istore_n 3, 1) := by decide +kernel
theorem dX11_comesBack_6 : decode cX11_comesBack 6 = .ok (.aload_n 0, 1) := by decide +kernel
theorem dX11_comesBack_7 : decode cX11_comesBack 7 = .ok (.iload_n 1, 1) := by decide +kernel
theorem dX11_comesBack_8 : decode cX11_comesBack 8 = .ok (.iconst 1, 1) := by decide +kernel
theorem dX11_comesBack_9 : decode cX11_comesBack 9 = .ok (.invokevirtual 196, 3) := by decide +kernel
theorem dX11_comesBack_12 : decode cX11_comesBack 12 = .ok (.istore 4, 2) := by decide +kernel
theorem dX11_comesBack_14 : decode cX11_comesBack 14 = .ok (.aload_n 0, 1) := by decide +kernel
theorem dX11_comesBack_15 : decode cX11_comesBack 15 = .ok (.getfield 9, 3) := by decide +kernel
theorem dX11_comesBack_18 : decode cX11_comesBack 18 = .ok (.iload 4, 2) := by decide +kernel
theorem dX11_comesBack_20 : decode cX11_comesBack 20 = .ok (.iconst 3, 1) := by decide +kernel
theorem dX11_comesBack_21 : decode cX11_comesBack 21 = .ok (.invokestatic 40, 3) := by decide +kernel
theorem dX11_comesBack_24 : decode cX11_comesBack 24 = .ok (.dup2, 1) := by decide +kernel
theorem dX11_comesBack_25 : decode cX11_comesBack 25 = .ok (.laload, 1) := by decide +kernel
theorem dX11_comesBack_26 : decode cX11_comesBack 26 = .ok (.iload_n 3, 1) := by decide +kernel
theorem dX11_comesBack_27 : decode cX11_comesBack 27 = .ok (.i2l, 1) := by decide +kernel
theorem dX11_comesBack_28 : decode cX11_comesBack 28 = .ok (.ladd, 1) := by decide +kernel
theorem dX11_comesBack_29 : decode cX11_comesBack 29 = .ok (.lastore, 1) := by decide +kernel
theorem dX11_comesBack_30 : decode cX11_comesBack 30 = .ok (.aload_n 0, 1) := by decide +kernel
theorem dX11_comesBack_31 : decode cX11_comesBack 31 = .ok (.getfield 9, 3) := by decide +kernel
theorem dX11_comesBack_34 : decode cX11_comesBack 34 = .ok (.iload 4, 2) := by decide +kernel
theorem dX11_comesBack_36 : decode cX11_comesBack 36 = .ok (.bipush 7, 2) := by decide +kernel
theorem dX11_comesBack_38 : decode cX11_comesBack 38 = .ok (.invokestatic 40, 3) := by decide +kernel
theorem dX11_comesBack_41 : decode cX11_comesBack 41 = .ok (.dup2, 1) := by decide +kernel
theorem dX11_comesBack_42 : decode cX11_comesBack 42 = .ok (.laload, 1) := by decide +kernel
theorem dX11_comesBack_43 : decode cX11_comesBack 43 = .ok (.aload_n 0, 1) := by decide +kernel
theorem dX11_comesBack_44 : decode cX11_comesBack 44 = .ok (.iload_n 1, 1) := by decide +kernel
theorem dX11_comesBack_45 : decode cX11_comesBack 45 = .ok (.invokevirtual 217, 3) := by decide +kernel
theorem dX11_comesBack_48 : decode cX11_comesBack 48 = .ok (.ifCond .eq 7, 3) := by decide +kernel
theorem dX11_comesBack_51 : decode cX11_comesBack 51 = .ok (.lconst 0, 1) := by decide +kernel
theorem dX11_comesBack_52 : decode cX11_comesBack 52 = .ok (.goto 5, 3) := by decide +kernel
theorem dX11_comesBack_55 : decode cX11_comesBack 55 = .ok (.iload_n 3, 1) := by decide +kernel
theorem dX11_comesBack_56 : decode cX11_comesBack 56 = .ok (.i2l, 1) := by decide +kernel
theorem dX11_comesBack_57 : decode cX11_comesBack 57 = .ok (.ladd, 1) := by decide +kernel
theorem dX11_comesBack_58 : decode cX11_comesBack 58 = .ok (.lastore, 1) := by decide +kernel
theorem dX11_comesBack_59 : decode cX11_comesBack 59 = .ok (.aload_n 0, 1) := by decide +kernel
theorem dX11_comesBack_60 : decode cX11_comesBack 60 = .ok (.getfield 9, 3) := by decide +kernel
theorem dX11_comesBack_63 : decode cX11_comesBack 63 = .ok (.bipush 11, 2) := by decide +kernel
theorem dX11_comesBack_65 : decode cX11_comesBack 65 = .ok (.iload_n 2, 1) := by decide +kernel
theorem dX11_comesBack_66 : decode cX11_comesBack 66 = .ok (.iadd, 1) := by decide +kernel
theorem dX11_comesBack_67 : decode cX11_comesBack 67 = .ok (.dup2, 1) := by decide +kernel
theorem dX11_comesBack_68 : decode cX11_comesBack 68 = .ok (.laload, 1) := by decide +kernel
theorem dX11_comesBack_69 : decode cX11_comesBack 69 = .ok (.iload_n 3, 1) := by decide +kernel
theorem dX11_comesBack_70 : decode cX11_comesBack 70 = .ok (.i2l, 1) := by decide +kernel
theorem dX11_comesBack_71 : decode cX11_comesBack 71 = .ok (.ladd, 1) := by decide +kernel
theorem dX11_comesBack_72 : decode cX11_comesBack 72 = .ok (.lastore, 1) := by decide +kernel
theorem dX11_comesBack_73 : decode cX11_comesBack 73 = .ok (.aload_n 0, 1) := by decide +kernel
theorem dX11_comesBack_74 : decode cX11_comesBack 74 = .ok (.iload_n 1, 1) := by decide +kernel
theorem dX11_comesBack_75 : decode cX11_comesBack 75 = .ok (.iload_n 2, 1) := by decide +kernel
theorem dX11_comesBack_76 : decode cX11_comesBack 76 = .ok (.invokevirtual 220, 3) := by decide +kernel
theorem dX11_comesBack_79 : decode cX11_comesBack 79 = .ok (.iload_n 3, 1) := by decide +kernel
theorem dX11_comesBack_80 : decode cX11_comesBack 80 = .ok (.ireturn, 1) := by decide +kernel
theorem dX11_newLicence_0 : decode cX11_newLicence 0 = .ok (.aload_n 0, 1) := by decide +kernel
theorem dX11_newLicence_1 : decode cX11_newLicence 1 = .ok (.bipush 8, 2) := by decide +kernel
theorem dX11_newLicence_3 : decode cX11_newLicence 3 = .ok (.invokevirtual 164, 3) := by decide +kernel
theorem dX11_newLicence_6 : decode cX11_newLicence 6 = .ok (.istore 9, 2) := by decide +kernel
theorem dX11_newLicence_8 : decode cX11_newLicence 8 = .ok (.aload_n 0, 1) := by decide +kernel
theorem dX11_newLicence_9 : decode cX11_newLicence 9 = .ok (.getfield 9, 3) := by decide +kernel
theorem dX11_newLicence_12 : decode cX11_newLicence 12 = .ok (.iload 9, 2) := by decide +kernel
theorem dX11_newLicence_14 : decode cX11_newLicence 14 = .ok (.iconst 0, 1) := by decide +kernel
theorem dX11_newLicence_15 : decode cX11_newLicence 15 = .ok (.invokestatic 48, 3) := by decide +kernel
theorem dX11_newLicence_18 : decode cX11_newLicence 18 = .ok (.iload_n 1, 1) := by decide +kernel
theorem dX11_newLicence_19 : decode cX11_newLicence 19 = .ok (.i2l, 1) := by decide +kernel
theorem dX11_newLicence_20 : decode cX11_newLicence 20 = .ok (.lastore, 1) := by decide +kernel
theorem dX11_newLicence_21 : decode cX11_newLicence 21 = .ok (.aload_n 0, 1) := by decide +kernel
theorem dX11_newLicence_22 : decode cX11_newLicence 22 = .ok (.getfield 9, 3) := by decide +kernel
theorem dX11_newLicence_25 : decode cX11_newLicence 25 = .ok (.iload 9, 2) := by decide +kernel
theorem dX11_newLicence_27 : decode cX11_newLicence 27 = .ok (.iconst 1, 1) := by decide +kernel
theorem dX11_newLicence_28 : decode cX11_newLicence 28 = .ok (.invokestatic 48, 3) := by decide +kernel
theorem dX11_newLicence_31 : decode cX11_newLicence 31 = .ok (.iload_n 2, 1) := by decide +kernel
theorem dX11_newLicence_32 : decode cX11_newLicence 32 = .ok (.i2l, 1) := by decide +kernel
theorem dX11_newLicence_33 : decode cX11_newLicence 33 = .ok (.lastore, 1) := by decide +kernel
theorem dX11_newLicence_34 : decode cX11_newLicence 34 = .ok (.aload_n 0, 1) := by decide +kernel
theorem dX11_newLicence_35 : decode cX11_newLicence 35 = .ok (.getfield 9, 3) := by decide +kernel
theorem dX11_newLicence_38 : decode cX11_newLicence 38 = .ok (.iload 9, 2) := by decide +kernel
theorem dX11_newLicence_40 : decode cX11_newLicence 40 = .ok (.iconst 2, 1) := by decide +kernel
theorem dX11_newLicence_41 : decode cX11_newLicence 41 = .ok (.invokestatic 48, 3) := by decide +kernel
theorem dX11_newLicence_44 : decode cX11_newLicence 44 = .ok (.iload_n 3, 1) := by decide +kernel
theorem dX11_newLicence_45 : decode cX11_newLicence 45 = .ok (.i2l, 1) := by decide +kernel
theorem dX11_newLicence_46 : decode cX11_newLicence 46 = .ok (.lastore, 1) := by decide +kernel
theorem dX11_newLicence_47 : decode cX11_newLicence 47 = .ok (.aload_n 0, 1) := by decide +kernel
theorem dX11_newLicence_48 : decode cX11_newLicence 48 = .ok (.getfield 9, 3) := by decide +kernel
theorem dX11_newLicence_51 : decode cX11_newLicence 51 = .ok (.iload 9, 2) := by decide +kernel
theorem dX11_newLicence_53 : decode cX11_newLicence 53 = .ok (.iconst 3, 1) := by decide +kernel
theorem dX11_newLicence_54 : decode cX11_newLicence 54 = .ok (.invokestatic 48, 3) := by decide +kernel
theorem dX11_newLicence_57 : decode cX11_newLicence 57 = .ok (.lload 4, 2) := by decide +kernel
theorem dX11_newLicence_59 : decode cX11_newLicence 59 = .ok (.lastore, 1) := by decide +kernel
theorem dX11_newLicence_60 : decode cX11_newLicence 60 = .ok (.aload_n 0, 1) := by decide +kernel
theorem dX11_newLicence_61 : decode cX11_newLicence 61 = .ok (.getfield 9, 3) := by decide +kernel
theorem dX11_newLicence_64 : decode cX11_newLicence 64 = .ok (.iload 9, 2) := by decide +kernel
theorem dX11_newLicence_66 : decode cX11_newLicence 66 = .ok (.iconst 4, 1) := by decide +kernel
theorem dX11_newLicence_67 : decode cX11_newLicence 67 = .ok (.invokestatic 48, 3) := by decide +kernel
theorem dX11_newLicence_70 : decode cX11_newLicence 70 = .ok (.lconst 0, 1) := by decide +kernel
theorem dX11_newLicence_71 : decode cX11_newLicence 71 = .ok (.lastore, 1) := by decide +kernel
theorem dX11_newLicence_72 : decode cX11_newLicence 72 = .ok (.aload_n 0, 1) := by decide +kernel
theorem dX11_newLicence_73 : decode cX11_newLicence 73 = .ok (.getfield 9, 3) := by decide +kernel
theorem dX11_newLicence_76 : decode cX11_newLicence 76 = .ok (.iload 9, 2) := by decide +kernel
theorem dX11_newLicence_78 : decode cX11_newLicence 78 = .ok (.iconst 5, 1) := by decide +kernel
theorem dX11_newLicence_79 : decode cX11_newLicence 79 = .ok (.invokestatic 48, 3) := by decide +kernel
theorem dX11_newLicence_82 : decode cX11_newLicence 82 = .ok (.lconst 0, 1) := by decide +kernel
theorem dX11_newLicence_83 : decode cX11_newLicence 83 = .ok (.lastore, 1) := by decide +kernel
theorem dX11_newLicence_84 : decode cX11_newLicence 84 = .ok (.aload_n 0, 1) := by decide +kernel
theorem dX11_newLicence_85 : decode cX11_newLicence 85 = .ok (.getfield 9, 3) := by decide +kernel
theorem dX11_newLicence_88 : decode cX11_newLicence 88 = .ok (.iload 9, 2) := by decide +kernel
theorem dX11_newLicence_90 : decode cX11_newLicence 90 = .ok (.bipush 6, 2) := by decide +kernel
theorem dX11_newLicence_92 : decode cX11_newLicence 92 = .ok (.invokestatic 48, 3) := by decide +kernel
theorem dX11_newLicence_95 : decode cX11_newLicence 95 = .ok (.lload 6, 2) := by decide +kernel
theorem dX11_newLicence_97 : decode cX11_newLicence 97 = .ok (.lastore, 1) := by decide +kernel
theorem dX11_newLicence_98 : decode cX11_newLicence 98 = .ok (.aload_n 0, 1) := by decide +kernel
theorem dX11_newLicence_99 : decode cX11_newLicence 99 = .ok (.getfield 9, 3) := by decide +kernel
theorem dX11_newLicence_102 : decode cX11_newLicence 102 = .ok (.iload 9, 2) := by decide +kernel
theorem dX11_newLicence_104 : decode cX11_newLicence 104 = .ok (.bipush 7, 2) := by decide +kernel
theorem dX11_newLicence_106 : decode cX11_newLicence 106 = .ok (.invokestatic 48, 3) := by decide +kernel
theorem dX11_newLicence_109 : decode cX11_newLicence 109 = .ok (.lconst 0, 1) := by decide +kernel
theorem dX11_newLicence_110 : decode cX11_newLicence 110 = .ok (.lastore, 1) := by decide +kernel
theorem dX11_newLicence_111 : decode cX11_newLicence 111 = .ok (.aload_n 0, 1) := by decide +kernel
theorem dX11_newLicence_112 : decode cX11_newLicence 112 = .ok (.getfield 9, 3) := by decide +kernel
theorem dX11_newLicence_115 : decode cX11_newLicence 115 = .ok (.iload 9, 2) := by decide +kernel
theorem dX11_newLicence_117 : decode cX11_newLicence 117 = .ok (.bipush 8, 2) := by decide +kernel
theorem dX11_newLicence_119 : decode cX11_newLicence 119 = .ok (.invokestatic 48, 3) := by decide +kernel
theorem dX11_newLicence_122 : decode cX11_newLicence 122 = .ok (.iload 8, 2) := by decide +kernel
theorem dX11_newLicence_124 : decode cX11_newLicence 124 = .ok (.i2l, 1) := by decide +kernel
theorem dX11_newLicence_125 : decode cX11_newLicence 125 = .ok (.lastore, 1) := by decide +kernel
theorem dX11_newLicence_126 : decode cX11_newLicence 126 = .ok (.aload_n 0, 1) := by decide +kernel
theorem dX11_newLicence_127 : decode cX11_newLicence 127 = .ok (.getfield 9, 3) := by decide +kernel
theorem dX11_newLicence_130 : decode cX11_newLicence 130 = .ok (.iload 9, 2) := by decide +kernel
theorem dX11_newLicence_132 : decode cX11_newLicence 132 = .ok (.bipush 9, 2) := by decide +kernel
theorem dX11_newLicence_134 : decode cX11_newLicence 134 = .ok (.invokestatic 48, 3) := by decide +kernel
theorem dX11_newLicence_137 : decode cX11_newLicence 137 = .ok (.lconst 0, 1) := by decide +kernel
theorem dX11_newLicence_138 : decode cX11_newLicence 138 = .ok (.lastore, 1) := by decide +kernel
theorem dX11_newLicence_139 : decode cX11_newLicence 139 = .ok (.aload_n 0, 1) := by decide +kernel
theorem dX11_newLicence_140 : decode cX11_newLicence 140 = .ok (.getfield 9, 3) := by decide +kernel
theorem dX11_newLicence_143 : decode cX11_newLicence 143 = .ok (.bipush 8, 2) := by decide +kernel
theorem dX11_newLicence_145 : decode cX11_newLicence 145 = .ok (.dup2, 1) := by decide +kernel
theorem dX11_newLicence_146 : decode cX11_newLicence 146 = .ok (.laload, 1) := by decide +kernel
theorem dX11_newLicence_147 : decode cX11_newLicence 147 = .ok (.lconst 1, 1) := by decide +kernel
theorem dX11_newLicence_148 : decode cX11_newLicence 148 = .ok (.ladd, 1) := by decide +kernel
theorem dX11_newLicence_149 : decode cX11_newLicence 149 = .ok (.lastore, 1) := by decide +kernel
theorem dX11_newLicence_150 : decode cX11_newLicence 150 = .ok (.iload 9, 2) := by decide +kernel
theorem dX11_newLicence_152 : decode cX11_newLicence 152 = .ok (.ireturn, 1) := by decide +kernel
theorem dX11_keepsPast_0 : decode cX11_keepsPast 0 = .ok (.aload_n 0, 1) := by decide +kernel
theorem dX11_keepsPast_1 : decode cX11_keepsPast 1 = .ok (.getfield 158, 3) := by decide +kernel
theorem dX11_keepsPast_4 : decode cX11_keepsPast 4 = .ok (.bipush 10, 2) := by decide +kernel
theorem dX11_keepsPast_6 : decode cX11_keepsPast 6 = .ok (.if_icmp .ne 42, 3) := by decide +kernel
theorem dX11_keepsPast_9 : decode cX11_keepsPast 9 = .ok (.iconst 1, 1) := by decide +kernel
theorem dX11_keepsPast_10 : decode cX11_keepsPast 10 = .ok (.istore_n 1, 1) := by decide +kernel
theorem dX11_keepsPast_11 : decode cX11_keepsPast 11 = .ok (.iload_n 1, 1) := by decide +kernel
theorem dX11_keepsPast_12 : decode cX11_keepsPast 12 = .ok (.bipush 10, 2) := by decide +kernel
theorem dX11_keepsPast_14 : decode cX11_keepsPast 14 = .ok (.if_icmp .ge 24, 3) := by decide +kernel
theorem dX11_keepsPast_17 : decode cX11_keepsPast 17 = .ok (.aload_n 0, 1) := by decide +kernel
theorem dX11_keepsPast_18 : decode cX11_keepsPast 18 = .ok (.getfield 19, 3) := by decide +kernel
theorem dX11_keepsPast_21 : decode cX11_keepsPast 21 = .ok (.iload_n 1, 1) := by decide +kernel
theorem dX11_keepsPast_22 : decode cX11_keepsPast 22 = .ok (.aload_n 0, 1) := by decide +kernel
theorem dX11_keepsPast_23 : decode cX11_keepsPast 23 = .ok (.getfield 19, 3) := by decide +kernel
theorem dX11_keepsPast_26 : decode cX11_keepsPast 26 = .ok (.iload_n 1, 1) := by decide +kernel
theorem dX11_keepsPast_27 : decode cX11_keepsPast 27 = .ok (.iconst 1, 1) := by decide +kernel
theorem dX11_keepsPast_28 : decode cX11_keepsPast 28 = .ok (.isub, 1) := by decide +kernel
theorem dX11_keepsPast_29 : decode cX11_keepsPast 29 = .ok (.invokestatic 154, 3) := by decide +kernel
theorem dX11_keepsPast_32 : decode cX11_keepsPast 32 = .ok (.iinc 1 1, 3) := by decide +kernel
theorem dX11_keepsPast_35 : decode cX11_keepsPast 35 = .ok (.goto (-24), 3) := by decide +kernel
theorem dX11_keepsPast_38 : decode cX11_keepsPast 38 = .ok (.aload_n 0, 1) := by decide +kernel
theorem dX11_keepsPast_39 : decode cX11_keepsPast 39 = .ok (.dup, 1) := by decide +kernel
theorem dX11_keepsPast_40 : decode cX11_keepsPast 40 = .ok (.getfield 158, 3) := by decide +kernel
theorem dX11_keepsPast_43 : decode cX11_keepsPast 43 = .ok (.iconst 1, 1) := by decide +kernel
theorem dX11_keepsPast_44 : decode cX11_keepsPast 44 = .ok (.isub, 1) := by decide +kernel
theorem dX11_keepsPast_45 : decode cX11_keepsPast 45 = .ok (.putfield 158, 3) := by decide +kernel
theorem dX11_keepsPast_48 : decode cX11_keepsPast 48 = .ok (.aload_n 0, 1) := by decide +kernel
theorem dX11_keepsPast_49 : decode cX11_keepsPast 49 = .ok (.getfield 9, 3) := by decide +kernel
theorem dX11_keepsPast_52 : decode cX11_keepsPast 52 = .ok (.iconst 0, 1) := by decide +kernel
theorem dX11_keepsPast_53 : decode cX11_keepsPast 53 = .ok (.aload_n 0, 1) := by decide +kernel
theorem dX11_keepsPast_54 : decode cX11_keepsPast 54 = .ok (.getfield 19, 3) := by decide +kernel
theorem dX11_keepsPast_57 : decode cX11_keepsPast 57 = .ok (.aload_n 0, 1) := by decide +kernel
theorem dX11_keepsPast_58 : decode cX11_keepsPast 58 = .ok (.getfield 158, 3) := by decide +kernel
theorem dX11_keepsPast_61 : decode cX11_keepsPast 61 = .ok (.invokestatic 154, 3) := by decide +kernel
theorem dX11_keepsPast_64 : decode cX11_keepsPast 64 = .ok (.aload_n 0, 1) := by decide +kernel
theorem dX11_keepsPast_65 : decode cX11_keepsPast 65 = .ok (.dup, 1) := by decide +kernel
theorem dX11_keepsPast_66 : decode cX11_keepsPast 66 = .ok (.getfield 158, 3) := by decide +kernel
theorem dX11_keepsPast_69 : decode cX11_keepsPast 69 = .ok (.iconst 1, 1) := by decide +kernel
theorem dX11_keepsPast_70 : decode cX11_keepsPast 70 = .ok (.iadd, 1) := by decide +kernel
theorem dX11_keepsPast_71 : decode cX11_keepsPast 71 = .ok (.putfield 158, 3) := by decide +kernel
theorem dX11_keepsPast_74 : decode cX11_keepsPast 74 = .ok (.return_, 1) := by decide +kernel
theorem dX11_undo_0 : decode cX11_undo 0 = .ok (.aload_n 0, 1) := by decide +kernel
theorem dX11_undo_1 : decode cX11_undo 1 = .ok (.getfield 158, 3) := by decide +kernel
theorem dX11_undo_4 : decode cX11_undo 4 = .ok (.ifCond .ne 5, 3) := by decide +kernel
theorem dX11_undo_7 : decode cX11_undo 7 = .ok (.iconst (-1), 1) := by decide +kernel
theorem dX11_undo_8 : decode cX11_undo 8 = .ok (.ireturn, 1) := by decide +kernel
theorem dX11_undo_9 : decode cX11_undo 9 = .ok (.aload_n 0, 1) := by decide +kernel
theorem dX11_undo_10 : decode cX11_undo 10 = .ok (.dup, 1) := by decide +kernel
theorem dX11_undo_11 : decode cX11_undo 11 = .ok (.getfield 158, 3) := by decide +kernel
theorem dX11_undo_14 : decode cX11_undo 14 = .ok (.iconst 1, 1) := by decide +kernel
theorem dX11_undo_15 : decode cX11_undo 15 = .ok (.isub, 1) := by decide +kernel
theorem dX11_undo_16 : decode cX11_undo 16 = .ok (.putfield 158, 3) := by decide +kernel
theorem dX11_undo_19 : decode cX11_undo 19 = .ok (.aload_n 0, 1) := by decide +kernel
theorem dX11_undo_20 : decode cX11_undo 20 = .ok (.getfield 19, 3) := by decide +kernel
theorem dX11_undo_23 : decode cX11_undo 23 = .ok (.aload_n 0, 1) := by decide +kernel
theorem dX11_undo_24 : decode cX11_undo 24 = .ok (.getfield 158, 3) := by decide +kernel
theorem dX11_undo_27 : decode cX11_undo 27 = .ok (.aload_n 0, 1) := by decide +kernel
theorem dX11_undo_28 : decode cX11_undo 28 = .ok (.getfield 9, 3) := by decide +kernel
theorem dX11_undo_31 : decode cX11_undo 31 = .ok (.iconst 0, 1) := by decide +kernel
theorem dX11_undo_32 : decode cX11_undo 32 = .ok (.invokestatic 154, 3) := by decide +kernel
theorem dX11_undo_35 : decode cX11_undo 35 = .ok (.aload_n 0, 1) := by decide +kernel
theorem dX11_undo_36 : decode cX11_undo 36 = .ok (.getfield 158, 3) := by decide +kernel
theorem dX11_undo_39 : decode cX11_undo 39 = .ok (.ireturn, 1) := by decide +kernel
theorem dX11_keep_0 : decode cX11_keep 0 = .ok (.iload_n 1, 1) := by decide +kernel
theorem dX11_keep_1 : decode cX11_keep 1 = .ok (.i2l, 1) := by decide +kernel
theorem dX11_keep_2 : decode cX11_keep 2 = .ok (.lconst 0, 1) := by decide +kernel
theorem dX11_keep_3 : decode cX11_keep 3 = .ok (.lconst 1, 1) := by decide +kernel
theorem dX11_keep_4 : decode cX11_keep 4 = .ok (.invokestatic 51, 3) := by decide +kernel
theorem dX11_keep_7 : decode cX11_keep 7 = .ok (.ifCond .ne 5, 3) := by decide +kernel
theorem dX11_keep_10 : decode cX11_keep 10 = .ok (.iconst (-1), 1) := by decide +kernel
theorem dX11_keep_11 : decode cX11_keep 11 = .ok (.ireturn, 1) := by decide +kernel
theorem dX11_keep_12 : decode cX11_keep 12 = .ok (.aload_n 0, 1) := by decide +kernel
theorem dX11_keep_13 : decode cX11_keep 13 = .ok (.getfield 9, 3) := by decide +kernel
theorem dX11_keep_16 : decode cX11_keep 16 = .ok (.iconst 0, 1) := by decide +kernel
theorem dX11_keep_17 : decode cX11_keep 17 = .ok (.aload_n 0, 1) := by decide +kernel
theorem dX11_keep_18 : decode cX11_keep 18 = .ok (.getfield 22, 3) := by decide +kernel
theorem dX11_keep_21 : decode cX11_keep 21 = .ok (.iload_n 1, 1) := by decide +kernel
theorem dX11_keep_22 : decode cX11_keep 22 = .ok (.invokestatic 154, 3) := by decide +kernel
theorem dX11_keep_25 : decode cX11_keep 25 = .ok (.aload_n 0, 1) := by decide +kernel
theorem dX11_keep_26 : decode cX11_keep 26 = .ok (.getfield 25, 3) := by decide +kernel
theorem dX11_keep_29 : decode cX11_keep 29 = .ok (.iload_n 1, 1) := by decide +kernel
theorem dX11_keep_30 : decode cX11_keep 30 = .ok (.iconst 1, 1) := by decide +kernel
theorem dX11_keep_31 : decode cX11_keep 31 = .ok (.bastore, 1) := by decide +kernel
theorem dX11_keep_32 : decode cX11_keep 32 = .ok (.aload_n 0, 1) := by decide +kernel
theorem dX11_keep_33 : decode cX11_keep 33 = .ok (.bipush 6, 2) := by decide +kernel
theorem dX11_keep_35 : decode cX11_keep 35 = .ok (.invokevirtual 164, 3) := by decide +kernel
theorem dX11_keep_38 : decode cX11_keep 38 = .ok (.ireturn, 1) := by decide +kernel
theorem dX11_back_0 : decode cX11_back 0 = .ok (.iload_n 1, 1) := by decide +kernel
theorem dX11_back_1 : decode cX11_back 1 = .ok (.i2l, 1) := by decide +kernel
theorem dX11_back_2 : decode cX11_back 2 = .ok (.lconst 0, 1) := by decide +kernel
theorem dX11_back_3 : decode cX11_back 3 = .ok (.lconst 1, 1) := by decide +kernel
theorem dX11_back_4 : decode cX11_back 4 = .ok (.invokestatic 51, 3) := by decide +kernel
theorem dX11_back_7 : decode cX11_back 7 = .ok (.ifCond .ne 5, 3) := by decide +kernel
theorem dX11_back_10 : decode cX11_back 10 = .ok (.iconst (-1), 1) := by decide +kernel
theorem dX11_back_11 : decode cX11_back 11 = .ok (.ireturn, 1) := by decide +kernel
theorem dX11_back_12 : decode cX11_back 12 = .ok (.aload_n 0, 1) := by decide +kernel
theorem dX11_back_13 : decode cX11_back 13 = .ok (.getfield 25, 3) := by decide +kernel
theorem dX11_back_16 : decode cX11_back 16 = .ok (.iload_n 1, 1) := by decide +kernel
theorem dX11_back_17 : decode cX11_back 17 = .ok (.baload, 1) := by decide +kernel
theorem dX11_back_18 : decode cX11_back 18 = .ok (.ifCond .ne 6, 3) := by decide +kernel
theorem dX11_back_21 : decode cX11_back 21 = .ok (.bipush (-2), 2) := by decide +kernel
theorem dX11_back_23 : decode cX11_back 23 = .ok (.ireturn, 1) := by decide +kernel
theorem dX11_back_24 : decode cX11_back 24 = .ok (.aload_n 0, 1) := by decide +kernel
theorem dX11_back_25 : decode cX11_back 25 = .ok (.getfield 22, 3) := by decide +kernel
theorem dX11_back_28 : decode cX11_back 28 = .ok (.iload_n 1, 1) := by decide +kernel
theorem dX11_back_29 : decode cX11_back 29 = .ok (.aload_n 0, 1) := by decide +kernel
theorem dX11_back_30 : decode cX11_back 30 = .ok (.getfield 9, 3) := by decide +kernel
theorem dX11_back_33 : decode cX11_back 33 = .ok (.iconst 0, 1) := by decide +kernel
theorem dX11_back_34 : decode cX11_back 34 = .ok (.invokestatic 154, 3) := by decide +kernel
theorem dX11_back_37 : decode cX11_back 37 = .ok (.aload_n 0, 1) := by decide +kernel
theorem dX11_back_38 : decode cX11_back 38 = .ok (.iconst 0, 1) := by decide +kernel
theorem dX11_back_39 : decode cX11_back 39 = .ok (.putfield 158, 3) := by decide +kernel
theorem dX11_back_42 : decode cX11_back 42 = .ok (.aload_n 0, 1) := by decide +kernel
theorem dX11_back_43 : decode cX11_back 43 = .ok (.bipush 6, 2) := by decide +kernel
theorem dX11_back_45 : decode cX11_back 45 = .ok (.invokevirtual 164, 3) := by decide +kernel
theorem dX11_back_48 : decode cX11_back 48 = .ok (.ireturn, 1) := by decide +kernel
theorem dX11_grantable_0 : decode cX11_grantable 0 = .ok (.aload_n 0, 1) := by decide +kernel
theorem dX11_grantable_1 : decode cX11_grantable 1 = .ok (.bipush 8, 2) := by decide +kernel
theorem dX11_grantable_3 : decode cX11_grantable 3 = .ok (.invokevirtual 164, 3) := by decide +kernel
theorem dX11_grantable_6 : decode cX11_grantable 6 = .ok (.bipush 60, 2) := by decide +kernel
theorem dX11_grantable_8 : decode cX11_grantable 8 = .ok (.if_icmp .ne 6, 3) := by decide +kernel
theorem dX11_grantable_11 : decode cX11_grantable 11 = .ok (.bipush (-2), 2) := by decide +kernel
theorem dX11_grantable_13 : decode cX11_grantable 13 = .ok (.ireturn, 1) := by decide +kernel
theorem dX11_grantable_14 : decode cX11_grantable 14 = .ok (.aload_n 0, 1) := by decide +kernel
theorem dX11_grantable_15 : decode cX11_grantable 15 = .ok (.iload_n 1, 1) := by decide +kernel
theorem dX11_grantable_16 : decode cX11_grantable 16 = .ok (.iload_n 2, 1) := by decide +kernel
theorem dX11_grantable_17 : decode cX11_grantable 17 = .ok (.iconst 4, 1) := by decide +kernel
theorem dX11_grantable_18 : decode cX11_grantable 18 = .ok (.invokevirtual 167, 3) := by decide +kernel
theorem dX11_grantable_21 : decode cX11_grantable 21 = .ok (.iconst 1, 1) := by decide +kernel
theorem dX11_grantable_22 : decode cX11_grantable 22 = .ok (.if_icmp .ne 7, 3) := by decide +kernel
theorem dX11_grantable_25 : decode cX11_grantable 25 = .ok (.iconst 1, 1) := by decide +kernel
theorem dX11_grantable_26 : decode cX11_grantable 26 = .ok (.goto 4, 3) := by decide +kernel
theorem dX11_grantable_29 : decode cX11_grantable 29 = .ok (.iconst 0, 1) := by decide +kernel
theorem dX11_grantable_30 : decode cX11_grantable 30 = .ok (.istore 4, 2) := by decide +kernel
theorem dX11_grantable_32 : decode cX11_grantable 32 = .ok (.iload 4, 2) := by decide +kernel
theorem dX11_grantable_34 : decode cX11_grantable 34 = .ok (.ifCond .ne 41, 3) := by decide +kernel
theorem dX11_grantable_37 : decode cX11_grantable 37 = .ok (.iload_n 3, 1) := by decide +kernel
theorem dX11_grantable_38 : decode cX11_grantable 38 = .ok (.aload_n 0, 1) := by decide +kernel
theorem dX11_grantable_39 : decode cX11_grantable 39 = .ok (.iconst 1, 1) := by decide +kernel
theorem dX11_grantable_40 : decode cX11_grantable 40 = .ok (.invokevirtual 164, 3) := by decide +kernel
theorem dX11_grantable_43 : decode cX11_grantable 43 = .ok (.if_icmp .le 6, 3) := by decide +kernel
theorem dX11_grantable_46 : decode cX11_grantable 46 = .ok (.bipush (-3), 2) := by decide +kernel
theorem dX11_grantable_48 : decode cX11_grantable 48 = .ok (.ireturn, 1) := by decide +kernel
theorem dX11_grantable_49 : decode cX11_grantable 49 = .ok (.aload_n 0, 1) := by decide +kernel
theorem dX11_grantable_50 : decode cX11_grantable 50 = .ok (.iload_n 1, 1) := by decide +kernel
theorem dX11_grantable_51 : decode cX11_grantable 51 = .ok (.iload_n 2, 1) := by decide +kernel
theorem dX11_grantable_52 : decode cX11_grantable 52 = .ok (.bipush 7, 2) := by decide +kernel
theorem dX11_grantable_54 : decode cX11_grantable 54 = .ok (.invokevirtual 167, 3) := by decide +kernel
theorem dX11_grantable_57 : decode cX11_grantable 57 = .ok (.ifCond .le 6, 3) := by decide +kernel
theorem dX11_grantable_60 : decode cX11_grantable 60 = .ok (.bipush (-4), 2) := by decide +kernel
theorem dX11_grantable_62 : decode cX11_grantable 62 = .ok (.ireturn, 1) := by decide +kernel
theorem dX11_grantable_63 : decode cX11_grantable 63 = .ok (.aload_n 0, 1) := by decide +kernel
theorem dX11_grantable_64 : decode cX11_grantable 64 = .ok (.iload_n 1, 1) := by decide +kernel
theorem dX11_grantable_65 : decode cX11_grantable 65 = .ok (.iload_n 2, 1) := by decide +kernel
theorem dX11_grantable_66 : decode cX11_grantable 66 = .ok (.invokevirtual 223, 3) := by decide +kernel
theorem dX11_grantable_69 : decode cX11_grantable 69 = .ok (.ifCond .eq 6, 3) := by decide +kernel
theorem dX11_grantable_72 : decode cX11_grantable 72 = .ok (.bipush (-5), 2) := by decide +kernel
theorem dX11_grantable_74 : decode cX11_grantable 74 = .ok (.ireturn, 1) := by decide +kernel
theorem dX11_grantable_75 : decode cX11_grantable 75 = .ok (.iload 4, 2) := by decide +kernel
theorem dX11_grantable_77 : decode cX11_grantable 77 = .ok (.ifCond .eq 14, 3) := by decide +kernel
theorem dX11_grantable_80 : decode cX11_grantable 80 = .ok (.aload_n 0, 1) := by decide +kernel
theorem dX11_grantable_81 : decode cX11_grantable 81 = .ok (.iload_n 1, 1) := by decide +kernel
theorem dX11_grantable_82 : decode cX11_grantable 82 = .ok (.iload_n 2, 1) := by decide +kernel
theorem dX11_grantable_83 : decode cX11_grantable 83 = .ok (.bipush 6, 2) := by decide +kernel
theorem dX11_grantable_85 : decode cX11_grantable 85 = .ok (.invokevirtual 167, 3) := by decide +kernel
theorem dX11_grantable_88 : decode cX11_grantable 88 = .ok (.goto 9, 3) := by decide +kernel
theorem dX11_grantable_91 : decode cX11_grantable 91 = .ok (.aload_n 0, 1) := by decide +kernel
theorem dX11_grantable_92 : decode cX11_grantable 92 = .ok (.iload_n 2, 1) := by decide +kernel
theorem dX11_grantable_93 : decode cX11_grantable 93 = .ok (.iconst 3, 1) := by decide +kernel
theorem dX11_grantable_94 : decode cX11_grantable 94 = .ok (.invokevirtual 226, 3) := by decide +kernel
theorem dX11_grantable_97 : decode cX11_grantable 97 = .ok (.istore 5, 2) := by decide +kernel
theorem dX11_grantable_99 : decode cX11_grantable 99 = .ok (.iload 5, 2) := by decide +kernel
theorem dX11_grantable_101 : decode cX11_grantable 101 = .ok (.ifCond .ne 8, 3) := by decide +kernel
theorem dX11_grantable_104 : decode cX11_grantable 104 = .ok (.bipush (-6), 2) := by decide +kernel
theorem dX11_grantable_106 : decode cX11_grantable 106 = .ok (.goto 9, 3) := by decide +kernel
theorem dX11_grantable_109 : decode cX11_grantable 109 = .ok (.iload_n 3, 1) := by decide +kernel
theorem dX11_grantable_110 : decode cX11_grantable 110 = .ok (.iload 5, 2) := by decide +kernel
theorem dX11_grantable_112 : decode cX11_grantable 112 = .ok (.invokestatic 117, 3) := by decide +kernel
theorem dX11_grantable_115 : decode cX11_grantable 115 = .ok (.ireturn, 1) := by decide +kernel
theorem dX11_issues_0 : decode cX11_issues 0 = .ok (.aload_n 0, 1) := by decide +kernel
theorem dX11_issues_1 : decode cX11_issues 1 = .ok (.iload_n 1, 1) := by decide +kernel
theorem dX11_issues_2 : decode cX11_issues 2 = .ok (.iload_n 2, 1) := by decide +kernel
theorem dX11_issues_3 : decode cX11_issues 3 = .ok (.iload_n 3, 1) := by decide +kernel
theorem dX11_issues_4 : decode cX11_issues 4 = .ok (.invokevirtual 229, 3) := by decide +kernel
theorem dX11_issues_7 : decode cX11_issues 7 = .ok (.istore 4, 2) := by decide +kernel
theorem dX11_issues_9 : decode cX11_issues 9 = .ok (.iload 4, 2) := by decide +kernel
theorem dX11_issues_11 : decode cX11_issues 11 = .ok (.ifCond .ge 6, 3) := by decide +kernel
theorem dX11_issues_14 : decode cX11_issues 14 = .ok (.iload 4, 2) := by decide +kernel
theorem dX11_issues_16 : decode cX11_issues 16 = .ok (.ireturn, 1) := by decide +kernel
theorem dX11_issues_17 : decode cX11_issues 17 = .ok (.aload_n 0, 1) := by decide +kernel
theorem dX11_issues_18 : decode cX11_issues 18 = .ok (.getfield 9, 3) := by decide +kernel
theorem dX11_issues_21 : decode cX11_issues 21 = .ok (.aload_n 0, 1) := by decide +kernel
theorem dX11_issues_22 : decode cX11_issues 22 = .ok (.iload_n 1, 1) := by decide +kernel
theorem dX11_issues_23 : decode cX11_issues 23 = .ok (.iload_n 2, 1) := by decide +kernel
theorem dX11_issues_24 : decode cX11_issues 24 = .ok (.iconst 4, 1) := by decide +kernel
theorem dX11_issues_25 : decode cX11_issues 25 = .ok (.invokevirtual 167, 3) := by decide +kernel
theorem dX11_issues_28 : decode cX11_issues 28 = .ok (.iconst 1, 1) := by decide +kernel
theorem dX11_issues_29 : decode cX11_issues 29 = .ok (.if_icmp .ne 13, 3) := by decide +kernel
theorem dX11_issues_32 : decode cX11_issues 32 = .ok (.iload_n 1, 1) := by decide +kernel
theorem dX11_issues_33 : decode cX11_issues 33 = .ok (.iload_n 2, 1) := by decide +kernel
theorem dX11_issues_34 : decode cX11_issues 34 = .ok (.bipush 6, 2) := by decide +kernel
theorem dX11_issues_36 : decode cX11_issues 36 = .ok (.invokestatic 44, 3) := by decide +kernel
theorem dX11_issues_39 : decode cX11_issues 39 = .ok (.goto 8, 3) := by decide +kernel
theorem dX11_issues_42 : decode cX11_issues 42 = .ok (.iload_n 2, 1) := by decide +kernel
theorem dX11_issues_43 : decode cX11_issues 43 = .ok (.iconst 3, 1) := by decide +kernel
theorem dX11_issues_44 : decode cX11_issues 44 = .ok (.invokestatic 40, 3) := by decide +kernel
theorem dX11_issues_47 : decode cX11_issues 47 = .ok (.dup2, 1) := by decide +kernel
theorem dX11_issues_48 : decode cX11_issues 48 = .ok (.laload, 1) := by decide +kernel
theorem dX11_issues_49 : decode cX11_issues 49 = .ok (.iload 4, 2) := by decide +kernel
theorem dX11_issues_51 : decode cX11_issues 51 = .ok (.i2l, 1) := by decide +kernel
theorem dX11_issues_52 : decode cX11_issues 52 = .ok (.lsub, 1) := by decide +kernel
theorem dX11_issues_53 : decode cX11_issues 53 = .ok (.lastore, 1) := by decide +kernel
theorem dX11_issues_54 : decode cX11_issues 54 = .ok (.aload_n 0, 1) := by decide +kernel
theorem dX11_issues_55 : decode cX11_issues 55 = .ok (.getfield 9, 3) := by decide +kernel
theorem dX11_issues_58 : decode cX11_issues 58 = .ok (.iload_n 1, 1) := by decide +kernel
theorem dX11_issues_59 : decode cX11_issues 59 = .ok (.iload_n 2, 1) := by decide +kernel
theorem dX11_issues_60 : decode cX11_issues 60 = .ok (.bipush 7, 2) := by decide +kernel
theorem dX11_issues_62 : decode cX11_issues 62 = .ok (.invokestatic 44, 3) := by decide +kernel
theorem dX11_issues_65 : decode cX11_issues 65 = .ok (.dup2, 1) := by decide +kernel
theorem dX11_issues_66 : decode cX11_issues 66 = .ok (.laload, 1) := by decide +kernel
theorem dX11_issues_67 : decode cX11_issues 67 = .ok (.iload 4, 2) := by decide +kernel
theorem dX11_issues_69 : decode cX11_issues 69 = .ok (.i2l, 1) := by decide +kernel
theorem dX11_issues_70 : decode cX11_issues 70 = .ok (.ladd, 1) := by decide +kernel
theorem dX11_issues_71 : decode cX11_issues 71 = .ok (.lastore, 1) := by decide +kernel
theorem dX11_issues_72 : decode cX11_issues 72 = .ok (.aload_n 0, 1) := by decide +kernel
theorem dX11_issues_73 : decode cX11_issues 73 = .ok (.getfield 9, 3) := by decide +kernel
theorem dX11_issues_76 : decode cX11_issues 76 = .ok (.iload_n 2, 1) := by decide +kernel
theorem dX11_issues_77 : decode cX11_issues 77 = .ok (.iconst 4, 1) := by decide +kernel
theorem dX11_issues_78 : decode cX11_issues 78 = .ok (.invokestatic 40, 3) := by decide +kernel
theorem dX11_issues_81 : decode cX11_issues 81 = .ok (.dup2, 1) := by decide +kernel
theorem dX11_issues_82 : decode cX11_issues 82 = .ok (.laload, 1) := by decide +kernel
theorem dX11_issues_83 : decode cX11_issues 83 = .ok (.iload 4, 2) := by decide +kernel
theorem dX11_issues_85 : decode cX11_issues 85 = .ok (.i2l, 1) := by decide +kernel
theorem dX11_issues_86 : decode cX11_issues 86 = .ok (.ladd, 1) := by decide +kernel
theorem dX11_issues_87 : decode cX11_issues 87 = .ok (.lastore, 1) := by decide +kernel
theorem dX11_issues_88 : decode cX11_issues 88 = .ok (.aload_n 0, 1) := by decide +kernel
theorem dX11_issues_89 : decode cX11_issues 89 = .ok (.getfield 9, 3) := by decide +kernel
theorem dX11_issues_92 : decode cX11_issues 92 = .ok (.bipush 11, 2) := by decide +kernel
theorem dX11_issues_94 : decode cX11_issues 94 = .ok (.dup2, 1) := by decide +kernel
theorem dX11_issues_95 : decode cX11_issues 95 = .ok (.laload, 1) := by decide +kernel
theorem dX11_issues_96 : decode cX11_issues 96 = .ok (.iload 4, 2) := by decide +kernel
theorem dX11_issues_98 : decode cX11_issues 98 = .ok (.i2l, 1) := by decide +kernel
theorem dX11_issues_99 : decode cX11_issues 99 = .ok (.ladd, 1) := by decide +kernel
theorem dX11_issues_100 : decode cX11_issues 100 = .ok (.lastore, 1) := by decide +kernel
theorem dX11_issues_101 : decode cX11_issues 101 = .ok (.aload_n 0, 1) := by decide +kernel
theorem dX11_issues_102 : decode cX11_issues 102 = .ok (.getfield 9, 3) := by decide +kernel
theorem dX11_issues_105 : decode cX11_issues 105 = .ok (.bipush 9, 2) := by decide +kernel
theorem dX11_issues_107 : decode cX11_issues 107 = .ok (.laload, 1) := by decide +kernel
theorem dX11_issues_108 : decode cX11_issues 108 = .ok (.aload_n 0, 1) := by decide +kernel
theorem dX11_issues_109 : decode cX11_issues 109 = .ok (.getfield 9, 3) := by decide +kernel
theorem dX11_issues_112 : decode cX11_issues 112 = .ok (.iconst 2, 1) := by decide +kernel
theorem dX11_issues_113 : decode cX11_issues 113 = .ok (.laload, 1) := by decide +kernel
theorem dX11_issues_114 : decode cX11_issues 114 = .ok (.ladd, 1) := by decide +kernel
theorem dX11_issues_115 : decode cX11_issues 115 = .ok (.lconst 1, 1) := by decide +kernel
theorem dX11_issues_116 : decode cX11_issues 116 = .ok (.lsub, 1) := by decide +kernel
theorem dX11_issues_117 : decode cX11_issues 117 = .ok (.aload_n 0, 1) := by decide +kernel
theorem dX11_issues_118 : decode cX11_issues 118 = .ok (.getfield 9, 3) := by decide +kernel
theorem dX11_issues_121 : decode cX11_issues 121 = .ok (.bipush 9, 2) := by decide +kernel
theorem dX11_issues_123 : decode cX11_issues 123 = .ok (.laload, 1) := by decide +kernel
theorem dX11_issues_124 : decode cX11_issues 124 = .ok (.ldc2_w 180, 3) := by decide +kernel
theorem dX11_issues_127 : decode cX11_issues 127 = .ok (.ldiv, 1) := by decide +kernel
theorem dX11_issues_128 : decode cX11_issues 128 = .ok (.ldc2_w 180, 3) := by decide +kernel
theorem dX11_issues_131 : decode cX11_issues 131 = .ok (.lmul, 1) := by decide +kernel
theorem dX11_issues_132 : decode cX11_issues 132 = .ok (.ldc2_w 180, 3) := by decide +kernel
theorem dX11_issues_135 : decode cX11_issues 135 = .ok (.ladd, 1) := by decide +kernel
theorem dX11_issues_136 : decode cX11_issues 136 = .ok (.lconst 1, 1) := by decide +kernel
theorem dX11_issues_137 : decode cX11_issues 137 = .ok (.lsub, 1) := by decide +kernel
theorem dX11_issues_138 : decode cX11_issues 138 = .ok (.invokestatic 193, 3) := by decide +kernel
theorem dX11_issues_141 : decode cX11_issues 141 = .ok (.lstore 5, 2) := by decide +kernel
theorem dX11_issues_143 : decode cX11_issues 143 = .ok (.aload_n 0, 1) := by decide +kernel
theorem dX11_issues_144 : decode cX11_issues 144 = .ok (.iload_n 1, 1) := by decide +kernel
theorem dX11_issues_145 : decode cX11_issues 145 = .ok (.iload_n 2, 1) := by decide +kernel
theorem dX11_issues_146 : decode cX11_issues 146 = .ok (.iload 4, 2) := by decide +kernel
theorem dX11_issues_148 : decode cX11_issues 148 = .ok (.aload_n 0, 1) := by decide +kernel
theorem dX11_issues_149 : decode cX11_issues 149 = .ok (.getfield 9, 3) := by decide +kernel
theorem dX11_issues_152 : decode cX11_issues 152 = .ok (.bipush 9, 2) := by decide +kernel
theorem dX11_issues_154 : decode cX11_issues 154 = .ok (.laload, 1) := by decide +kernel
theorem dX11_issues_155 : decode cX11_issues 155 = .ok (.lload 5, 2) := by decide +kernel
theorem dX11_issues_157 : decode cX11_issues 157 = .ok (.iconst (-1), 1) := by decide +kernel
theorem dX11_issues_158 : decode cX11_issues 158 = .ok (.invokevirtual 232, 3) := by decide +kernel
theorem dX11_issues_161 : decode cX11_issues 161 = .ok (.ireturn, 1) := by decide +kernel
theorem dX11_apply_0 : decode cX11_apply 0 = .ok (.aload_n 0, 1) := by decide +kernel
theorem dX11_apply_1 : decode cX11_apply 1 = .ok (.iload_n 1, 1) := by decide +kernel
theorem dX11_apply_2 : decode cX11_apply 2 = .ok (.iload_n 2, 1) := by decide +kernel
theorem dX11_apply_3 : decode cX11_apply 3 = .ok (.invokevirtual 236, 3) := by decide +kernel
theorem dX11_apply_6 : decode cX11_apply 6 = .ok (.ifCond .eq 10, 3) := by decide +kernel
theorem dX11_apply_9 : decode cX11_apply 9 = .ok (.iload_n 3, 1) := by decide +kernel
theorem dX11_apply_10 : decode cX11_apply 10 = .ok (.invokestatic 239, 3) := by decide +kernel
theorem dX11_apply_13 : decode cX11_apply 13 = .ok (.ifCond .ne 5, 3) := by decide +kernel
theorem dX11_apply_16 : decode cX11_apply 16 = .ok (.iconst (-1), 1) := by decide +kernel
theorem dX11_apply_17 : decode cX11_apply 17 = .ok (.ireturn, 1) := by decide +kernel
theorem dX11_apply_18 : decode cX11_apply 18 = .ok (.aload_n 0, 1) := by decide +kernel
theorem dX11_apply_19 : decode cX11_apply 19 = .ok (.iload_n 1, 1) := by decide +kernel
theorem dX11_apply_20 : decode cX11_apply 20 = .ok (.iload_n 2, 1) := by decide +kernel
theorem dX11_apply_21 : decode cX11_apply 21 = .ok (.iload_n 3, 1) := by decide +kernel
theorem dX11_apply_22 : decode cX11_apply 22 = .ok (.invokevirtual 229, 3) := by decide +kernel
theorem dX11_apply_25 : decode cX11_apply 25 = .ok (.istore 4, 2) := by decide +kernel
theorem dX11_apply_27 : decode cX11_apply 27 = .ok (.iload 4, 2) := by decide +kernel
theorem dX11_apply_29 : decode cX11_apply 29 = .ok (.ifCond .ge 6, 3) := by decide +kernel
theorem dX11_apply_32 : decode cX11_apply 32 = .ok (.iload 4, 2) := by decide +kernel
theorem dX11_apply_34 : decode cX11_apply 34 = .ok (.ireturn, 1) := by decide +kernel
theorem dX11_apply_35 : decode cX11_apply 35 = .ok (.aload_n 0, 1) := by decide +kernel
theorem dX11_apply_36 : decode cX11_apply 36 = .ok (.invokevirtual 242, 3) := by decide +kernel
theorem dX11_apply_39 : decode cX11_apply 39 = .ok (.aload_n 0, 1) := by decide +kernel
theorem dX11_apply_40 : decode cX11_apply 40 = .ok (.iload_n 1, 1) := by decide +kernel
theorem dX11_apply_41 : decode cX11_apply 41 = .ok (.iload_n 2, 1) := by decide +kernel
theorem dX11_apply_42 : decode cX11_apply 42 = .ok (.iload_n 3, 1) := by decide +kernel
theorem dX11_apply_43 : decode cX11_apply 43 = .ok (.invokevirtual 245, 3) := by decide +kernel
theorem dX11_apply_46 : decode cX11_apply 46 = .ok (.ireturn, 1) := by decide +kernel
theorem dX11_would_0 : decode cX11_would 0 = .ok (.aload_n 0, 1) := by decide +kernel
theorem dX11_would_1 : decode cX11_would 1 = .ok (.iload_n 1, 1) := by decide +kernel
theorem dX11_would_2 : decode cX11_would 2 = .ok (.iload_n 2, 1) := by decide +kernel
theorem dX11_would_3 : decode cX11_would 3 = .ok (.invokevirtual 236, 3) := by decide +kernel
theorem dX11_would_6 : decode cX11_would 6 = .ok (.ifCond .eq 20, 3) := by decide +kernel
theorem dX11_would_9 : decode cX11_would 9 = .ok (.iload_n 3, 1) := by decide +kernel
theorem dX11_would_10 : decode cX11_would 10 = .ok (.invokestatic 239, 3) := by decide +kernel
theorem dX11_would_13 : decode cX11_would 13 = .ok (.ifCond .eq 13, 3) := by decide +kernel
theorem dX11_would_16 : decode cX11_would 16 = .ok (.aload_n 0, 1) := by decide +kernel
theorem dX11_would_17 : decode cX11_would 17 = .ok (.iload_n 1, 1) := by decide +kernel
theorem dX11_would_18 : decode cX11_would 18 = .ok (.iload_n 2, 1) := by decide +kernel
theorem dX11_would_19 : decode cX11_would 19 = .ok (.iload_n 3, 1) := by decide +kernel
theorem dX11_would_20 : decode cX11_would 20 = .ok (.invokevirtual 229, 3) := by decide +kernel
theorem dX11_would_23 : decode cX11_would 23 = .ok (.goto 4, 3) := by decide +kernel
theorem dX11_would_26 : decode cX11_would 26 = .ok (.iconst (-1), 1) := by decide +kernel
theorem dX11_would_27 : decode cX11_would 27 = .ok (.ireturn, 1) := by decide +kernel
theorem dX11_use_0 : decode cX11_use 0 = .ok (.aload_n 0, 1) := by decide +kernel
theorem dX11_use_1 : decode cX11_use 1 = .ok (.iload_n 1, 1) := by decide +kernel
theorem dX11_use_2 : decode cX11_use 2 = .ok (.invokevirtual 248, 3) := by decide +kernel
theorem dX11_use_5 : decode cX11_use 5 = .ok (.ifCond .eq 10, 3) := by decide +kernel
theorem dX11_use_8 : decode cX11_use 8 = .ok (.iload_n 2, 1) := by decide +kernel
theorem dX11_use_9 : decode cX11_use 9 = .ok (.invokestatic 239, 3) := by decide +kernel
theorem dX11_use_12 : decode cX11_use 12 = .ok (.ifCond .ne 5, 3) := by decide +kernel
theorem dX11_use_15 : decode cX11_use 15 = .ok (.iconst (-1), 1) := by decide +kernel
theorem dX11_use_16 : decode cX11_use 16 = .ok (.ireturn, 1) := by decide +kernel
theorem dX11_use_17 : decode cX11_use 17 = .ok (.aload_n 0, 1) := by decide +kernel
theorem dX11_use_18 : decode cX11_use 18 = .ok (.iload_n 1, 1) := by decide +kernel
theorem dX11_use_19 : decode cX11_use 19 = .ok (.invokevirtual 199, 3) := by decide +kernel
theorem dX11_use_22 : decode cX11_use 22 = .ok (.ifCond .ne 6, 3) := by decide +kernel
theorem dX11_use_25 : decode cX11_use 25 = .ok (.bipush (-2), 2) := by decide +kernel
theorem dX11_use_27 : decode cX11_use 27 = .ok (.ireturn, 1) := by decide +kernel
theorem dX11_use_28 : decode cX11_use 28 = .ok (.iload_n 2, 1) := by decide +kernel
theorem dX11_use_29 : decode cX11_use 29 = .ok (.aload_n 0, 1) := by decide +kernel
theorem dX11_use_30 : decode cX11_use 30 = .ok (.iload_n 1, 1) := by decide +kernel
theorem dX11_use_31 : decode cX11_use 31 = .ok (.invokevirtual 214, 3) := by decide +kernel
theorem dX11_use_34 : decode cX11_use 34 = .ok (.if_icmp .le 6, 3) := by decide +kernel
theorem dX11_use_37 : decode cX11_use 37 = .ok (.bipush (-3), 2) := by decide +kernel
theorem dX11_use_39 : decode cX11_use 39 = .ok (.ireturn, 1) := by decide +kernel
theorem dX11_use_40 : decode cX11_use 40 = .ok (.aload_n 0, 1) := by decide +kernel
theorem dX11_use_41 : decode cX11_use 41 = .ok (.invokevirtual 242, 3) := by decide +kernel
theorem dX11_use_44 : decode cX11_use 44 = .ok (.aload_n 0, 1) := by decide +kernel
theorem dX11_use_45 : decode cX11_use 45 = .ok (.iload_n 1, 1) := by decide +kernel
theorem dX11_use_46 : decode cX11_use 46 = .ok (.iconst 0, 1) := by decide +kernel
theorem dX11_use_47 : decode cX11_use 47 = .ok (.invokevirtual 196, 3) := by decide +kernel
theorem dX11_use_50 : decode cX11_use 50 = .ok (.istore_n 3, 1) := by decide +kernel
theorem dX11_use_51 : decode cX11_use 51 = .ok (.aload_n 0, 1) := by decide +kernel
theorem dX11_use_52 : decode cX11_use 52 = .ok (.iload_n 1, 1) := by decide +kernel
theorem dX11_use_53 : decode cX11_use 53 = .ok (.iconst 1, 1) := by decide +kernel
theorem dX11_use_54 : decode cX11_use 54 = .ok (.invokevirtual 196, 3) := by decide +kernel
theorem dX11_use_57 : decode cX11_use 57 = .ok (.istore 4, 2) := by decide +kernel
theorem dX11_use_59 : decode cX11_use 59 = .ok (.aload_n 0, 1) := by decide +kernel
theorem dX11_use_60 : decode cX11_use 60 = .ok (.getfield 9, 3) := by decide +kernel
theorem dX11_use_63 : decode cX11_use 63 = .ok (.bipush 9, 2) := by decide +kernel
theorem dX11_use_65 : decode cX11_use 65 = .ok (.laload, 1) := by decide +kernel
theorem dX11_use_66 : decode cX11_use 66 = .ok (.ldc2_w 180, 3) := by decide +kernel
theorem dX11_use_69 : decode cX11_use 69 = .ok (.lrem, 1) := by decide +kernel
theorem dX11_use_70 : decode cX11_use 70 = .ok (.ldc2_w 251, 3) := by decide +kernel
theorem dX11_use_73 : decode cX11_use 73 = .ok (.ldiv, 1) := by decide +kernel
theorem dX11_use_74 : decode cX11_use 74 = .ok (.l2i, 1) := by decide +kernel
theorem dX11_use_75 : decode cX11_use 75 = .ok (.istore 5, 2) := by decide +kernel
theorem dX11_use_77 : decode cX11_use 77 = .ok (.aload_n 0, 1) := by decide +kernel
theorem dX11_use_78 : decode cX11_use 78 = .ok (.getfield 9, 3) := by decide +kernel
theorem dX11_use_81 : decode cX11_use 81 = .ok (.iload_n 1, 1) := by decide +kernel
theorem dX11_use_82 : decode cX11_use 82 = .ok (.iconst 4, 1) := by decide +kernel
theorem dX11_use_83 : decode cX11_use 83 = .ok (.invokestatic 48, 3) := by decide +kernel
theorem dX11_use_86 : decode cX11_use 86 = .ok (.dup2, 1) := by decide +kernel
theorem dX11_use_87 : decode cX11_use 87 = .ok (.laload, 1) := by decide +kernel
theorem dX11_use_88 : decode cX11_use 88 = .ok (.iload_n 2, 1) := by decide +kernel
theorem dX11_use_89 : decode cX11_use 89 = .ok (.i2l, 1) := by decide +kernel
theorem dX11_use_90 : decode cX11_use 90 = .ok (.ladd, 1) := by decide +kernel
theorem dX11_use_91 : decode cX11_use 91 = .ok (.lastore, 1) := by decide +kernel
theorem dX11_use_92 : decode cX11_use 92 = .ok (.aload_n 0, 1) := by decide +kernel
theorem dX11_use_93 : decode cX11_use 93 = .ok (.getfield 9, 3) := by decide +kernel
theorem dX11_use_96 : decode cX11_use 96 = .ok (.iload_n 1, 1) := by decide +kernel
theorem dX11_use_97 : decode cX11_use 97 = .ok (.bipush 9, 2) := by decide +kernel
theorem dX11_use_99 : decode cX11_use 99 = .ok (.invokestatic 48, 3) := by decide +kernel
theorem dX11_use_102 : decode cX11_use 102 = .ok (.dup2, 1) := by decide +kernel
theorem dX11_use_103 : decode cX11_use 103 = .ok (.laload, 1) := by decide +kernel
theorem dX11_use_104 : decode cX11_use 104 = .ok (.iload_n 2, 1) := by decide +kernel
theorem dX11_use_105 : decode cX11_use 105 = .ok (.i2l, 1) := by decide +kernel
theorem dX11_use_106 : decode cX11_use 106 = .ok (.aload_n 0, 1) := by decide +kernel
theorem dX11_use_107 : decode cX11_use 107 = .ok (.getfield 9, 3) := by decide +kernel
theorem dX11_use_110 : decode cX11_use 110 = .ok (.bipush 9, 2) := by decide +kernel
theorem dX11_use_112 : decode cX11_use 112 = .ok (.laload, 1) := by decide +kernel
theorem dX11_use_113 : decode cX11_use 113 = .ok (.aload_n 0, 1) := by decide +kernel
theorem dX11_use_114 : decode cX11_use 114 = .ok (.getfield 9, 3) := by decide +kernel
theorem dX11_use_117 : decode cX11_use 117 = .ok (.iload_n 1, 1) := by decide +kernel
theorem dX11_use_118 : decode cX11_use 118 = .ok (.iconst 3, 1) := by decide +kernel
theorem dX11_use_119 : decode cX11_use 119 = .ok (.invokestatic 48, 3) := by decide +kernel
theorem dX11_use_122 : decode cX11_use 122 = .ok (.laload, 1) := by decide +kernel
theorem dX11_use_123 : decode cX11_use 123 = .ok (.lsub, 1) := by decide +kernel
theorem dX11_use_124 : decode cX11_use 124 = .ok (.lmul, 1) := by decide +kernel
theorem dX11_use_125 : decode cX11_use 125 = .ok (.ladd, 1) := by decide +kernel
theorem dX11_use_126 : decode cX11_use 126 = .ok (.lastore, 1) := by decide +kernel
theorem dX11_use_127 : decode cX11_use 127 = .ok (.aload_n 0, 1) := by decide +kernel
theorem dX11_use_128 : decode cX11_use 128 = .ok (.getfield 9, 3) := by decide +kernel
theorem dX11_use_131 : decode cX11_use 131 = .ok (.iload_n 3, 1) := by decide +kernel
theorem dX11_use_132 : decode cX11_use 132 = .ok (.iload 4, 2) := by decide +kernel
theorem dX11_use_134 : decode cX11_use 134 = .ok (.iconst 3, 1) := by decide +kernel
theorem dX11_use_135 : decode cX11_use 135 = .ok (.invokestatic 44, 3) := by decide +kernel
theorem dX11_use_138 : decode cX11_use 138 = .ok (.dup2, 1) := by decide +kernel
theorem dX11_use_139 : decode cX11_use 139 = .ok (.laload, 1) := by decide +kernel
theorem dX11_use_140 : decode cX11_use 140 = .ok (.iload_n 2, 1) := by decide +kernel
theorem dX11_use_141 : decode cX11_use 141 = .ok (.i2l, 1) := by decide +kernel
theorem dX11_use_142 : decode cX11_use 142 = .ok (.ladd, 1) := by decide +kernel
theorem dX11_use_143 : decode cX11_use 143 = .ok (.lastore, 1) := by decide +kernel
theorem dX11_use_144 : decode cX11_use 144 = .ok (.aload_n 0, 1) := by decide +kernel
theorem dX11_use_145 : decode cX11_use 145 = .ok (.getfield 9, 3) := by decide +kernel
theorem dX11_use_148 : decode cX11_use 148 = .ok (.iload 4, 2) := by decide +kernel
theorem dX11_use_150 : decode cX11_use 150 = .ok (.iconst 5, 1) := by decide +kernel
theorem dX11_use_151 : decode cX11_use 151 = .ok (.invokestatic 40, 3) := by decide +kernel
theorem dX11_use_154 : decode cX11_use 154 = .ok (.dup2, 1) := by decide +kernel
theorem dX11_use_155 : decode cX11_use 155 = .ok (.laload, 1) := by decide +kernel
theorem dX11_use_156 : decode cX11_use 156 = .ok (.iload_n 2, 1) := by decide +kernel
theorem dX11_use_157 : decode cX11_use 157 = .ok (.i2l, 1) := by decide +kernel
theorem dX11_use_158 : decode cX11_use 158 = .ok (.ladd, 1) := by decide +kernel
theorem dX11_use_159 : decode cX11_use 159 = .ok (.lastore, 1) := by decide +kernel
theorem dX11_use_160 : decode cX11_use 160 = .ok (.aload_n 0, 1) := by decide +kernel
theorem dX11_use_161 : decode cX11_use 161 = .ok (.getfield 9, 3) := by decide +kernel
theorem dX11_use_164 : decode cX11_use 164 = .ok (.sipush 312, 3) := by decide +kernel
theorem dX11_use_167 : decode cX11_use 167 = .ok (.bipush 12, 2) := by decide +kernel
theorem dX11_use_169 : decode cX11_use 169 = .ok (.iload_n 3, 1) := by decide +kernel
theorem dX11_use_170 : decode cX11_use 170 = .ok (.imul, 1) := by decide +kernel
theorem dX11_use_171 : decode cX11_use 171 = .ok (.iadd, 1) := by decide +kernel
theorem dX11_use_172 : decode cX11_use 172 = .ok (.iload 5, 2) := by decide +kernel
theorem dX11_use_174 : decode cX11_use 174 = .ok (.iadd, 1) := by decide +kernel
theorem dX11_use_175 : decode cX11_use 175 = .ok (.dup2, 1) := by decide +kernel
theorem dX11_use_176 : decode cX11_use 176 = .ok (.laload, 1) := by decide +kernel
theorem dX11_use_177 : decode cX11_use 177 = .ok (.iload_n 2, 1) := by decide +kernel
theorem dX11_use_178 : decode cX11_use 178 = .ok (.i2l, 1) := by decide +kernel
theorem dX11_use_179 : decode cX11_use 179 = .ok (.ladd, 1) := by decide +kernel
theorem dX11_use_180 : decode cX11_use 180 = .ok (.lastore, 1) := by decide +kernel
theorem dX11_use_181 : decode cX11_use 181 = .ok (.aload_n 0, 1) := by decide +kernel
theorem dX11_use_182 : decode cX11_use 182 = .ok (.getfield 9, 3) := by decide +kernel
theorem dX11_use_185 : decode cX11_use 185 = .ok (.sipush 408, 3) := by decide +kernel
theorem dX11_use_188 : decode cX11_use 188 = .ok (.bipush 12, 2) := by decide +kernel
theorem dX11_use_190 : decode cX11_use 190 = .ok (.iload 4, 2) := by decide +kernel
theorem dX11_use_192 : decode cX11_use 192 = .ok (.imul, 1) := by decide +kernel
theorem dX11_use_193 : decode cX11_use 193 = .ok (.iadd, 1) := by decide +kernel
theorem dX11_use_194 : decode cX11_use 194 = .ok (.iload 5, 2) := by decide +kernel
theorem dX11_use_196 : decode cX11_use 196 = .ok (.iadd, 1) := by decide +kernel
theorem dX11_use_197 : decode cX11_use 197 = .ok (.dup2, 1) := by decide +kernel
theorem dX11_use_198 : decode cX11_use 198 = .ok (.laload, 1) := by decide +kernel
theorem dX11_use_199 : decode cX11_use 199 = .ok (.iload_n 2, 1) := by decide +kernel
theorem dX11_use_200 : decode cX11_use 200 = .ok (.i2l, 1) := by decide +kernel
theorem dX11_use_201 : decode cX11_use 201 = .ok (.ladd, 1) := by decide +kernel
theorem dX11_use_202 : decode cX11_use 202 = .ok (.lastore, 1) := by decide +kernel
theorem dX11_use_203 : decode cX11_use 203 = .ok (.aload_n 0, 1) := by decide +kernel
theorem dX11_use_204 : decode cX11_use 204 = .ok (.getfield 9, 3) := by decide +kernel
theorem dX11_use_207 : decode cX11_use 207 = .ok (.bipush 12, 2) := by decide +kernel
theorem dX11_use_209 : decode cX11_use 209 = .ok (.dup2, 1) := by decide +kernel
theorem dX11_use_210 : decode cX11_use 210 = .ok (.laload, 1) := by decide +kernel
theorem dX11_use_211 : decode cX11_use 211 = .ok (.iload_n 2, 1) := by decide +kernel
theorem dX11_use_212 : decode cX11_use 212 = .ok (.i2l, 1) := by decide +kernel
theorem dX11_use_213 : decode cX11_use 213 = .ok (.ladd, 1) := by decide +kernel
theorem dX11_use_214 : decode cX11_use 214 = .ok (.lastore, 1) := by decide +kernel
theorem dX11_use_215 : decode cX11_use 215 = .ok (.aload_n 0, 1) := by decide +kernel
theorem dX11_use_216 : decode cX11_use 216 = .ok (.iload_n 1, 1) := by decide +kernel
theorem dX11_use_217 : decode cX11_use 217 = .ok (.invokevirtual 214, 3) := by decide +kernel
theorem dX11_use_220 : decode cX11_use 220 = .ok (.istore 6, 2) := by decide +kernel
theorem dX11_use_222 : decode cX11_use 222 = .ok (.iload 6, 2) := by decide +kernel
theorem dX11_use_224 : decode cX11_use 224 = .ok (.ifCond .ne 9, 3) := by decide +kernel
theorem dX11_use_227 : decode cX11_use 227 = .ok (.aload_n 0, 1) := by decide +kernel
theorem dX11_use_228 : decode cX11_use 228 = .ok (.iload_n 1, 1) := by decide +kernel
theorem dX11_use_229 : decode cX11_use 229 = .ok (.iconst 1, 1) := by decide +kernel
theorem dX11_use_230 : decode cX11_use 230 = .ok (.invokevirtual 220, 3) := by decide +kernel
theorem dX11_use_233 : decode cX11_use 233 = .ok (.iload 6, 2) := by decide +kernel
theorem dX11_use_235 : decode cX11_use 235 = .ok (.ireturn, 1) := by decide +kernel
theorem dX11_giveBack_0 : decode cX11_giveBack 0 = .ok (.aload_n 0, 1) := by decide +kernel
theorem dX11_giveBack_1 : decode cX11_giveBack 1 = .ok (.iload_n 1, 1) := by decide +kernel
theorem dX11_giveBack_2 : decode cX11_giveBack 2 = .ok (.invokevirtual 248, 3) := by decide +kernel
theorem dX11_giveBack_5 : decode cX11_giveBack 5 = .ok (.ifCond .ne 5, 3) := by decide +kernel
theorem dX11_giveBack_8 : decode cX11_giveBack 8 = .ok (.iconst (-1), 1) := by decide +kernel
theorem dX11_giveBack_9 : decode cX11_giveBack 9 = .ok (.ireturn, 1) := by decide +kernel
theorem dX11_giveBack_10 : decode cX11_giveBack 10 = .ok (.aload_n 0, 1) := by decide +kernel
theorem dX11_giveBack_11 : decode cX11_giveBack 11 = .ok (.iload_n 1, 1) := by decide +kernel
theorem dX11_giveBack_12 : decode cX11_giveBack 12 = .ok (.invokevirtual 199, 3) := by decide +kernel
theorem dX11_giveBack_15 : decode cX11_giveBack 15 = .ok (.ifCond .ne 6, 3) := by decide +kernel
theorem dX11_giveBack_18 : decode cX11_giveBack 18 = .ok (.bipush (-2), 2) := by decide +kernel
theorem dX11_giveBack_20 : decode cX11_giveBack 20 = .ok (.ireturn, 1) := by decide +kernel
theorem dX11_giveBack_21 : decode cX11_giveBack 21 = .ok (.aload_n 0, 1) := by decide +kernel
theorem dX11_giveBack_22 : decode cX11_giveBack 22 = .ok (.invokevirtual 242, 3) := by decide +kernel
theorem dX11_giveBack_25 : decode cX11_giveBack 25 = .ok (.aload_n 0, 1) := by decide +kernel
theorem dX11_giveBack_26 : decode cX11_giveBack 26 = .ok (.iload_n 1, 1) := by decide +kernel
theorem dX11_giveBack_27 : decode cX11_giveBack 27 = .ok (.iconst 2, 1) := by decide +kernel
theorem dX11_giveBack_28 : decode cX11_giveBack 28 = .ok (.invokevirtual 253, 3) := by decide +kernel
theorem dX11_giveBack_31 : decode cX11_giveBack 31 = .ok (.ireturn, 1) := by decide +kernel
theorem dX11_hand_0 : decode cX11_hand 0 = .ok (.aload_n 0, 1) := by decide +kernel
theorem dX11_hand_1 : decode cX11_hand 1 = .ok (.iload_n 1, 1) := by decide +kernel
theorem dX11_hand_2 : decode cX11_hand 2 = .ok (.invokevirtual 248, 3) := by decide +kernel
theorem dX11_hand_5 : decode cX11_hand 5 = .ok (.ifCond .eq 28, 3) := by decide +kernel
theorem dX11_hand_8 : decode cX11_hand 8 = .ok (.aload_n 0, 1) := by decide +kernel
theorem dX11_hand_9 : decode cX11_hand 9 = .ok (.iload_n 2, 1) := by decide +kernel
theorem dX11_hand_10 : decode cX11_hand 10 = .ok (.invokevirtual 55, 3) := by decide +kernel
theorem dX11_hand_13 : decode cX11_hand 13 = .ok (.ifCond .eq 20, 3) := by decide +kernel
theorem dX11_hand_16 : decode cX11_hand 16 = .ok (.aload_n 0, 1) := by decide +kernel
theorem dX11_hand_17 : decode cX11_hand 17 = .ok (.iload_n 1, 1) := by decide +kernel
theorem dX11_hand_18 : decode cX11_hand 18 = .ok (.iconst 0, 1) := by decide +kernel
theorem dX11_hand_19 : decode cX11_hand 19 = .ok (.invokevirtual 196, 3) := by decide +kernel
theorem dX11_hand_22 : decode cX11_hand 22 = .ok (.iload_n 2, 1) := by decide +kernel
theorem dX11_hand_23 : decode cX11_hand 23 = .ok (.if_icmp .eq 10, 3) := by decide +kernel
theorem dX11_hand_26 : decode cX11_hand 26 = .ok (.iload_n 3, 1) := by decide +kernel
theorem dX11_hand_27 : decode cX11_hand 27 = .ok (.invokestatic 239, 3) := by decide +kernel
theorem dX11_hand_30 : decode cX11_hand 30 = .ok (.ifCond .ne 5, 3) := by decide +kernel
theorem dX11_hand_33 : decode cX11_hand 33 = .ok (.iconst (-1), 1) := by decide +kernel
theorem dX11_hand_34 : decode cX11_hand 34 = .ok (.ireturn, 1) := by decide +kernel
theorem dX11_hand_35 : decode cX11_hand 35 = .ok (.aload_n 0, 1) := by decide +kernel
theorem dX11_hand_36 : decode cX11_hand 36 = .ok (.bipush 8, 2) := by decide +kernel
theorem dX11_hand_38 : decode cX11_hand 38 = .ok (.invokevirtual 164, 3) := by decide +kernel
theorem dX11_hand_41 : decode cX11_hand 41 = .ok (.bipush 60, 2) := by decide +kernel
theorem dX11_hand_43 : decode cX11_hand 43 = .ok (.if_icmp .ne 6, 3) := by decide +kernel
theorem dX11_hand_46 : decode cX11_hand 46 = .ok (.bipush (-2), 2) := by decide +kernel
theorem dX11_hand_48 : decode cX11_hand 48 = .ok (.ireturn, 1) := by decide +kernel
theorem dX11_hand_49 : decode cX11_hand 49 = .ok (.aload_n 0, 1) := by decide +kernel
theorem dX11_hand_50 : decode cX11_hand 50 = .ok (.iload_n 1, 1) := by decide +kernel
theorem dX11_hand_51 : decode cX11_hand 51 = .ok (.invokevirtual 199, 3) := by decide +kernel
theorem dX11_hand_54 : decode cX11_hand 54 = .ok (.ifCond .ne 6, 3) := by decide +kernel
theorem dX11_hand_57 : decode cX11_hand 57 = .ok (.bipush (-3), 2) := by decide +kernel
theorem dX11_hand_59 : decode cX11_hand 59 = .ok (.ireturn, 1) := by decide +kernel
theorem dX11_hand_60 : decode cX11_hand 60 = .ok (.aload_n 0, 1) := by decide +kernel
theorem dX11_hand_61 : decode cX11_hand 61 = .ok (.iload_n 1, 1) := by decide +kernel
theorem dX11_hand_62 : decode cX11_hand 62 = .ok (.invokevirtual 214, 3) := by decide +kernel
theorem dX11_hand_65 : decode cX11_hand 65 = .ok (.iload_n 3, 1) := by decide +kernel
theorem dX11_hand_66 : decode cX11_hand 66 = .ok (.if_icmp .ge 6, 3) := by decide +kernel
theorem dX11_hand_69 : decode cX11_hand 69 = .ok (.bipush (-4), 2) := by decide +kernel
theorem dX11_hand_71 : decode cX11_hand 71 = .ok (.ireturn, 1) := by decide +kernel
theorem dX11_hand_72 : decode cX11_hand 72 = .ok (.aload_n 0, 1) := by decide +kernel
theorem dX11_hand_73 : decode cX11_hand 73 = .ok (.invokevirtual 242, 3) := by decide +kernel
theorem dX11_hand_76 : decode cX11_hand 76 = .ok (.aload_n 0, 1) := by decide +kernel
theorem dX11_hand_77 : decode cX11_hand 77 = .ok (.getfield 9, 3) := by decide +kernel
theorem dX11_hand_80 : decode cX11_hand 80 = .ok (.iload_n 1, 1) := by decide +kernel
theorem dX11_hand_81 : decode cX11_hand 81 = .ok (.iconst 2, 1) := by decide +kernel
theorem dX11_hand_82 : decode cX11_hand 82 = .ok (.invokestatic 48, 3) := by decide +kernel
theorem dX11_hand_85 : decode cX11_hand 85 = .ok (.dup2, 1) := by decide +kernel
theorem dX11_hand_86 : decode cX11_hand 86 = .ok (.laload, 1) := by decide +kernel
theorem dX11_hand_87 : decode cX11_hand 87 = .ok (.iload_n 3, 1) := by decide +kernel
theorem dX11_hand_88 : decode cX11_hand 88 = .ok (.i2l, 1) := by decide +kernel
theorem dX11_hand_89 : decode cX11_hand 89 = .ok (.lsub, 1) := by decide +kernel
theorem dX11_hand_90 : decode cX11_hand 90 = .ok (.lastore, 1) := by decide +kernel
theorem dX11_hand_91 : decode cX11_hand 91 = .ok (.aload_n 0, 1) := by decide +kernel
theorem dX11_hand_92 : decode cX11_hand 92 = .ok (.iload_n 2, 1) := by decide +kernel
theorem dX11_hand_93 : decode cX11_hand 93 = .ok (.aload_n 0, 1) := by decide +kernel
theorem dX11_hand_94 : decode cX11_hand 94 = .ok (.iload_n 1, 1) := by decide +kernel
theorem dX11_hand_95 : decode cX11_hand 95 = .ok (.iconst 1, 1) := by decide +kernel
theorem dX11_hand_96 : decode cX11_hand 96 = .ok (.invokevirtual 196, 3) := by decide +kernel
theorem dX11_hand_99 : decode cX11_hand 99 = .ok (.iload_n 3, 1) := by decide +kernel
theorem dX11_hand_100 : decode cX11_hand 100 = .ok (.aload_n 0, 1) := by decide +kernel
theorem dX11_hand_101 : decode cX11_hand 101 = .ok (.getfield 9, 3) := by decide +kernel
theorem dX11_hand_104 : decode cX11_hand 104 = .ok (.iload_n 1, 1) := by decide +kernel
theorem dX11_hand_105 : decode cX11_hand 105 = .ok (.iconst 3, 1) := by decide +kernel
theorem dX11_hand_106 : decode cX11_hand 106 = .ok (.invokestatic 48, 3) := by decide +kernel
theorem dX11_hand_109 : decode cX11_hand 109 = .ok (.laload, 1) := by decide +kernel
theorem dX11_hand_110 : decode cX11_hand 110 = .ok (.aload_n 0, 1) := by decide +kernel
theorem dX11_hand_111 : decode cX11_hand 111 = .ok (.getfield 9, 3) := by decide +kernel
theorem dX11_hand_114 : decode cX11_hand 114 = .ok (.iload_n 1, 1) := by decide +kernel
theorem dX11_hand_115 : decode cX11_hand 115 = .ok (.bipush 6, 2) := by decide +kernel
theorem dX11_hand_117 : decode cX11_hand 117 = .ok (.invokestatic 48, 3) := by decide +kernel
theorem dX11_hand_120 : decode cX11_hand 120 = .ok (.laload, 1) := by decide +kernel
theorem dX11_hand_121 : decode cX11_hand 121 = .ok (.iload_n 1, 1) := by decide +kernel
theorem dX11_hand_122 : decode cX11_hand 122 = .ok (.invokevirtual 232, 3) := by decide +kernel
theorem dX11_hand_125 : decode cX11_hand 125 = .ok (.istore 4, 2) := by decide +kernel
theorem dX11_hand_127 : decode cX11_hand 127 = .ok (.aload_n 0, 1) := by decide +kernel
theorem dX11_hand_128 : decode cX11_hand 128 = .ok (.iload_n 1, 1) := by decide +kernel
theorem dX11_hand_129 : decode cX11_hand 129 = .ok (.invokevirtual 214, 3) := by decide +kernel
theorem dX11_hand_132 : decode cX11_hand 132 = .ok (.ifCond .ne 9, 3) := by decide +kernel
theorem dX11_hand_135 : decode cX11_hand 135 = .ok (.aload_n 0, 1) := by decide +kernel
theorem dX11_hand_136 : decode cX11_hand 136 = .ok (.iload_n 1, 1) := by decide +kernel
theorem dX11_hand_137 : decode cX11_hand 137 = .ok (.iconst 1, 1) := by decide +kernel
theorem dX11_hand_138 : decode cX11_hand 138 = .ok (.invokevirtual 220, 3) := by decide +kernel
theorem dX11_hand_141 : decode cX11_hand 141 = .ok (.iload 4, 2) := by decide +kernel
theorem dX11_hand_143 : decode cX11_hand 143 = .ok (.ireturn, 1) := by decide +kernel
theorem dX11_merge_0 : decode cX11_merge 0 = .ok (.aload_n 0, 1) := by decide +kernel
theorem dX11_merge_1 : decode cX11_merge 1 = .ok (.iload_n 1, 1) := by decide +kernel
theorem dX11_merge_2 : decode cX11_merge 2 = .ok (.invokevirtual 248, 3) := by decide +kernel
theorem dX11_merge_5 : decode cX11_merge 5 = .ok (.ifCond .eq 16, 3) := by decide +kernel
theorem dX11_merge_8 : decode cX11_merge 8 = .ok (.aload_n 0, 1) := by decide +kernel
theorem dX11_merge_9 : decode cX11_merge 9 = .ok (.iload_n 2, 1) := by decide +kernel
theorem dX11_merge_10 : decode cX11_merge 10 = .ok (.invokevirtual 248, 3) := by decide +kernel
theorem dX11_merge_13 : decode cX11_merge 13 = .ok (.ifCond .eq 8, 3) := by decide +kernel
theorem dX11_merge_16 : decode cX11_merge 16 = .ok (.iload_n 1, 1) := by decide +kernel
theorem dX11_merge_17 : decode cX11_merge 17 = .ok (.iload_n 2, 1) := by decide +kernel
theorem dX11_merge_18 : decode cX11_merge 18 = .ok (.if_icmp .ne 5, 3) := by decide +kernel
theorem dX11_merge_21 : decode cX11_merge 21 = .ok (.iconst (-1), 1) := by decide +kernel
theorem dX11_merge_22 : decode cX11_merge 22 = .ok (.ireturn, 1) := by decide +kernel
theorem dX11_merge_23 : decode cX11_merge 23 = .ok (.aload_n 0, 1) := by decide +kernel
theorem dX11_merge_24 : decode cX11_merge 24 = .ok (.iload_n 1, 1) := by decide +kernel
theorem dX11_merge_25 : decode cX11_merge 25 = .ok (.invokevirtual 199, 3) := by decide +kernel
theorem dX11_merge_28 : decode cX11_merge 28 = .ok (.ifCond .eq 11, 3) := by decide +kernel
theorem dX11_merge_31 : decode cX11_merge 31 = .ok (.aload_n 0, 1) := by decide +kernel
theorem dX11_merge_32 : decode cX11_merge 32 = .ok (.iload_n 2, 1) := by decide +kernel
theorem dX11_merge_33 : decode cX11_merge 33 = .ok (.invokevirtual 199, 3) := by decide +kernel
theorem dX11_merge_36 : decode cX11_merge 36 = .ok (.ifCond .ne 6, 3) := by decide +kernel
theorem dX11_merge_39 : decode cX11_merge 39 = .ok (.bipush (-2), 2) := by decide +kernel
theorem dX11_merge_41 : decode cX11_merge 41 = .ok (.ireturn, 1) := by decide +kernel
theorem dX11_merge_42 : decode cX11_merge 42 = .ok (.aload_n 0, 1) := by decide +kernel
theorem dX11_merge_43 : decode cX11_merge 43 = .ok (.iload_n 2, 1) := by decide +kernel
theorem dX11_merge_44 : decode cX11_merge 44 = .ok (.aload_n 0, 1) := by decide +kernel
theorem dX11_merge_45 : decode cX11_merge 45 = .ok (.iload_n 1, 1) := by decide +kernel
theorem dX11_merge_46 : decode cX11_merge 46 = .ok (.iconst 0, 1) := by decide +kernel
theorem dX11_merge_47 : decode cX11_merge 47 = .ok (.invokevirtual 196, 3) := by decide +kernel
theorem dX11_merge_50 : decode cX11_merge 50 = .ok (.aload_n 0, 1) := by decide +kernel
theorem dX11_merge_51 : decode cX11_merge 51 = .ok (.iload_n 1, 1) := by decide +kernel
theorem dX11_merge_52 : decode cX11_merge 52 = .ok (.iconst 1, 1) := by decide +kernel
theorem dX11_merge_53 : decode cX11_merge 53 = .ok (.invokevirtual 196, 3) := by decide +kernel
theorem dX11_merge_56 : decode cX11_merge 56 = .ok (.invokevirtual 202, 3) := by decide +kernel
theorem dX11_merge_59 : decode cX11_merge 59 = .ok (.istore_n 3, 1) := by decide +kernel
theorem dX11_merge_60 : decode cX11_merge 60 = .ok (.iload_n 3, 1) := by decide +kernel
theorem dX11_merge_61 : decode cX11_merge 61 = .ok (.ifCond .eq 39, 3) := by decide +kernel
theorem dX11_merge_64 : decode cX11_merge 64 = .ok (.aload_n 0, 1) := by decide +kernel
theorem dX11_merge_65 : decode cX11_merge 65 = .ok (.iload_n 1, 1) := by decide +kernel
theorem dX11_merge_66 : decode cX11_merge 66 = .ok (.iconst 3, 1) := by decide +kernel
theorem dX11_merge_67 : decode cX11_merge 67 = .ok (.invokevirtual 196, 3) := by decide +kernel
theorem dX11_merge_70 : decode cX11_merge 70 = .ok (.aload_n 0, 1) := by decide +kernel
theorem dX11_merge_71 : decode cX11_merge 71 = .ok (.iload_n 2, 1) := by decide +kernel
theorem dX11_merge_72 : decode cX11_merge 72 = .ok (.iconst 3, 1) := by decide +kernel
theorem dX11_merge_73 : decode cX11_merge 73 = .ok (.invokevirtual 196, 3) := by decide +kernel
theorem dX11_merge_76 : decode cX11_merge 76 = .ok (.if_icmp .ne 24, 3) := by decide +kernel
theorem dX11_merge_79 : decode cX11_merge 79 = .ok (.aload_n 0, 1) := by decide +kernel
theorem dX11_merge_80 : decode cX11_merge 80 = .ok (.iload_n 1, 1) := by decide +kernel
theorem dX11_merge_81 : decode cX11_merge 81 = .ok (.bipush 6, 2) := by decide +kernel
theorem dX11_merge_83 : decode cX11_merge 83 = .ok (.invokevirtual 196, 3) := by decide +kernel
theorem dX11_merge_86 : decode cX11_merge 86 = .ok (.aload_n 0, 1) := by decide +kernel
theorem dX11_merge_87 : decode cX11_merge 87 = .ok (.iload_n 2, 1) := by decide +kernel
theorem dX11_merge_88 : decode cX11_merge 88 = .ok (.bipush 6, 2) := by decide +kernel
theorem dX11_merge_90 : decode cX11_merge 90 = .ok (.invokevirtual 196, 3) := by decide +kernel
theorem dX11_merge_93 : decode cX11_merge 93 = .ok (.if_icmp .ne 7, 3) := by decide +kernel
theorem dX11_merge_96 : decode cX11_merge 96 = .ok (.iconst 1, 1) := by decide +kernel
theorem dX11_merge_97 : decode cX11_merge 97 = .ok (.goto 4, 3) := by decide +kernel
theorem dX11_merge_100 : decode cX11_merge 100 = .ok (.iconst 0, 1) := by decide +kernel
theorem dX11_merge_101 : decode cX11_merge 101 = .ok (.istore_n 3, 1) := by decide +kernel
theorem dX11_merge_102 : decode cX11_merge 102 = .ok (.iload_n 3, 1) := by decide +kernel
theorem dX11_merge_103 : decode cX11_merge 103 = .ok (.ifCond .ne 6, 3) := by decide +kernel
theorem dX11_merge_106 : decode cX11_merge 106 = .ok (.bipush (-3), 2) := by decide +kernel
theorem dX11_merge_108 : decode cX11_merge 108 = .ok (.ireturn, 1) := by decide +kernel
theorem dX11_merge_109 : decode cX11_merge 109 = .ok (.aload_n 0, 1) := by decide +kernel
theorem dX11_merge_110 : decode cX11_merge 110 = .ok (.invokevirtual 242, 3) := by decide +kernel
theorem dX11_merge_113 : decode cX11_merge 113 = .ok (.aload_n 0, 1) := by decide +kernel
theorem dX11_merge_114 : decode cX11_merge 114 = .ok (.iload_n 1, 1) := by decide +kernel
theorem dX11_merge_115 : decode cX11_merge 115 = .ok (.iload_n 2, 1) := by decide +kernel
theorem dX11_merge_116 : decode cX11_merge 116 = .ok (.iconst 2, 1) := by decide +kernel
theorem dX11_merge_117 : decode cX11_merge 117 = .ok (.invokevirtual 256, 3) := by decide +kernel
theorem dX11_merge_120 : decode cX11_merge 120 = .ok (.aload_n 0, 1) := by decide +kernel
theorem dX11_merge_121 : decode cX11_merge 121 = .ok (.iload_n 1, 1) := by decide +kernel
theorem dX11_merge_122 : decode cX11_merge 122 = .ok (.iload_n 2, 1) := by decide +kernel
theorem dX11_merge_123 : decode cX11_merge 123 = .ok (.iconst 4, 1) := by decide +kernel
theorem dX11_merge_124 : decode cX11_merge 124 = .ok (.invokevirtual 256, 3) := by decide +kernel
theorem dX11_merge_127 : decode cX11_merge 127 = .ok (.aload_n 0, 1) := by decide +kernel
theorem dX11_merge_128 : decode cX11_merge 128 = .ok (.iload_n 1, 1) := by decide +kernel
theorem dX11_merge_129 : decode cX11_merge 129 = .ok (.iload_n 2, 1) := by decide +kernel
theorem dX11_merge_130 : decode cX11_merge 130 = .ok (.bipush 9, 2) := by decide +kernel
theorem dX11_merge_132 : decode cX11_merge 132 = .ok (.invokevirtual 256, 3) := by decide +kernel
theorem dX11_merge_135 : decode cX11_merge 135 = .ok (.aload_n 0, 1) := by decide +kernel
theorem dX11_merge_136 : decode cX11_merge 136 = .ok (.iload_n 2, 1) := by decide +kernel
theorem dX11_merge_137 : decode cX11_merge 137 = .ok (.iconst 1, 1) := by decide +kernel
theorem dX11_merge_138 : decode cX11_merge 138 = .ok (.invokevirtual 220, 3) := by decide +kernel
theorem dX11_merge_141 : decode cX11_merge 141 = .ok (.aload_n 0, 1) := by decide +kernel
theorem dX11_merge_142 : decode cX11_merge 142 = .ok (.iload_n 1, 1) := by decide +kernel
theorem dX11_merge_143 : decode cX11_merge 143 = .ok (.invokevirtual 214, 3) := by decide +kernel
theorem dX11_merge_146 : decode cX11_merge 146 = .ok (.ireturn, 1) := by decide +kernel
theorem dX11_goesOver_0 : decode cX11_goesOver 0 = .ok (.aload_n 0, 1) := by decide +kernel
theorem dX11_goesOver_1 : decode cX11_goesOver 1 = .ok (.getfield 9, 3) := by decide +kernel
theorem dX11_goesOver_4 : decode cX11_goesOver 4 = .ok (.iload_n 1, 1) := by decide +kernel
theorem dX11_goesOver_5 : decode cX11_goesOver 5 = .ok (.iload_n 3, 1) := by decide +kernel
theorem dX11_goesOver_6 : decode cX11_goesOver 6 = .ok (.invokestatic 48, 3) := by decide +kernel
theorem dX11_goesOver_9 : decode cX11_goesOver 9 = .ok (.dup2, 1) := by decide +kernel
theorem dX11_goesOver_10 : decode cX11_goesOver 10 = .ok (.laload, 1) := by decide +kernel
theorem dX11_goesOver_11 : decode cX11_goesOver 11 = .ok (.aload_n 0, 1) := by decide +kernel
theorem dX11_goesOver_12 : decode cX11_goesOver 12 = .ok (.getfield 9, 3) := by decide +kernel
theorem dX11_goesOver_15 : decode cX11_goesOver 15 = .ok (.iload_n 2, 1) := by decide +kernel
theorem dX11_goesOver_16 : decode cX11_goesOver 16 = .ok (.iload_n 3, 1) := by decide +kernel
theorem dX11_goesOver_17 : decode cX11_goesOver 17 = .ok (.invokestatic 48, 3) := by decide +kernel
theorem dX11_goesOver_20 : decode cX11_goesOver 20 = .ok (.laload, 1) := by decide +kernel
theorem dX11_goesOver_21 : decode cX11_goesOver 21 = .ok (.ladd, 1) := by decide +kernel
theorem dX11_goesOver_22 : decode cX11_goesOver 22 = .ok (.lastore, 1) := by decide +kernel
theorem dX11_goesOver_23 : decode cX11_goesOver 23 = .ok (.aload_n 0, 1) := by decide +kernel
theorem dX11_goesOver_24 : decode cX11_goesOver 24 = .ok (.getfield 9, 3) := by decide +kernel
theorem dX11_goesOver_27 : decode cX11_goesOver 27 = .ok (.iload_n 2, 1) := by decide +kernel
theorem dX11_goesOver_28 : decode cX11_goesOver 28 = .ok (.iload_n 3, 1) := by decide +kernel
theorem dX11_goesOver_29 : decode cX11_goesOver 29 = .ok (.invokestatic 48, 3) := by decide +kernel
theorem dX11_goesOver_32 : decode cX11_goesOver 32 = .ok (.lconst 0, 1) := by decide +kernel
theorem dX11_goesOver_33 : decode cX11_goesOver 33 = .ok (.lastore, 1) := by decide +kernel
theorem dX11_goesOver_34 : decode cX11_goesOver 34 = .ok (.return_, 1) := by decide +kernel
theorem dX11_lend_0 : decode cX11_lend 0 = .ok (.aload_n 0, 1) := by decide +kernel
theorem dX11_lend_1 : decode cX11_lend 1 = .ok (.iload_n 1, 1) := by decide +kernel
theorem dX11_lend_2 : decode cX11_lend 2 = .ok (.iload_n 3, 1) := by decide +kernel
theorem dX11_lend_3 : decode cX11_lend 3 = .ok (.invokevirtual 236, 3) := by decide +kernel
theorem dX11_lend_6 : decode cX11_lend 6 = .ok (.ifCond .eq 24, 3) := by decide +kernel
theorem dX11_lend_9 : decode cX11_lend 9 = .ok (.aload_n 0, 1) := by decide +kernel
theorem dX11_lend_10 : decode cX11_lend 10 = .ok (.iload_n 2, 1) := by decide +kernel
theorem dX11_lend_11 : decode cX11_lend 11 = .ok (.invokevirtual 55, 3) := by decide +kernel
theorem dX11_lend_14 : decode cX11_lend 14 = .ok (.ifCond .eq 16, 3) := by decide +kernel
theorem dX11_lend_17 : decode cX11_lend 17 = .ok (.iload_n 1, 1) := by decide +kernel
theorem dX11_lend_18 : decode cX11_lend 18 = .ok (.iload_n 2, 1) := by decide +kernel
theorem dX11_lend_19 : decode cX11_lend 19 = .ok (.if_icmp .eq 11, 3) := by decide +kernel
theorem dX11_lend_22 : decode cX11_lend 22 = .ok (.iload 4, 2) := by decide +kernel
theorem dX11_lend_24 : decode cX11_lend 24 = .ok (.invokestatic 239, 3) := by decide +kernel
theorem dX11_lend_27 : decode cX11_lend 27 = .ok (.ifCond .ne 5, 3) := by decide +kernel
theorem dX11_lend_30 : decode cX11_lend 30 = .ok (.iconst (-1), 1) := by decide +kernel
theorem dX11_lend_31 : decode cX11_lend 31 = .ok (.ireturn, 1) := by decide +kernel
theorem dX11_lend_32 : decode cX11_lend 32 = .ok (.aload_n 0, 1) := by decide +kernel
theorem dX11_lend_33 : decode cX11_lend 33 = .ok (.iload_n 1, 1) := by decide +kernel
theorem dX11_lend_34 : decode cX11_lend 34 = .ok (.iload_n 3, 1) := by decide +kernel
theorem dX11_lend_35 : decode cX11_lend 35 = .ok (.iconst 4, 1) := by decide +kernel
theorem dX11_lend_36 : decode cX11_lend 36 = .ok (.invokevirtual 167, 3) := by decide +kernel
theorem dX11_lend_39 : decode cX11_lend 39 = .ok (.ifCond .eq 13, 3) := by decide +kernel
theorem dX11_lend_42 : decode cX11_lend 42 = .ok (.aload_n 0, 1) := by decide +kernel
theorem dX11_lend_43 : decode cX11_lend 43 = .ok (.iload_n 2, 1) := by decide +kernel
theorem dX11_lend_44 : decode cX11_lend 44 = .ok (.iload_n 3, 1) := by decide +kernel
theorem dX11_lend_45 : decode cX11_lend 45 = .ok (.iconst 4, 1) := by decide +kernel
theorem dX11_lend_46 : decode cX11_lend 46 = .ok (.invokevirtual 167, 3) := by decide +kernel
theorem dX11_lend_49 : decode cX11_lend 49 = .ok (.ifCond .ne 6, 3) := by decide +kernel
theorem dX11_lend_52 : decode cX11_lend 52 = .ok (.bipush (-2), 2) := by decide +kernel
theorem dX11_lend_54 : decode cX11_lend 54 = .ok (.ireturn, 1) := by decide +kernel
theorem dX11_lend_55 : decode cX11_lend 55 = .ok (.aload_n 0, 1) := by decide +kernel
theorem dX11_lend_56 : decode cX11_lend 56 = .ok (.iload_n 1, 1) := by decide +kernel
theorem dX11_lend_57 : decode cX11_lend 57 = .ok (.iload_n 3, 1) := by decide +kernel
theorem dX11_lend_58 : decode cX11_lend 58 = .ok (.bipush 6, 2) := by decide +kernel
theorem dX11_lend_60 : decode cX11_lend 60 = .ok (.invokevirtual 167, 3) := by decide +kernel
theorem dX11_lend_63 : decode cX11_lend 63 = .ok (.iload 4, 2) := by decide +kernel
theorem dX11_lend_65 : decode cX11_lend 65 = .ok (.if_icmp .ge 6, 3) := by decide +kernel
theorem dX11_lend_68 : decode cX11_lend 68 = .ok (.bipush (-3), 2) := by decide +kernel
theorem dX11_lend_70 : decode cX11_lend 70 = .ok (.ireturn, 1) := by decide +kernel
theorem dX11_lend_71 : decode cX11_lend 71 = .ok (.aload_n 0, 1) := by decide +kernel
theorem dX11_lend_72 : decode cX11_lend 72 = .ok (.invokevirtual 242, 3) := by decide +kernel
theorem dX11_lend_75 : decode cX11_lend 75 = .ok (.aload_n 0, 1) := by decide +kernel
theorem dX11_lend_76 : decode cX11_lend 76 = .ok (.getfield 9, 3) := by decide +kernel
theorem dX11_lend_79 : decode cX11_lend 79 = .ok (.iload_n 1, 1) := by decide +kernel
theorem dX11_lend_80 : decode cX11_lend 80 = .ok (.iload_n 3, 1) := by decide +kernel
theorem dX11_lend_81 : decode cX11_lend 81 = .ok (.bipush 6, 2) := by decide +kernel
theorem dX11_lend_83 : decode cX11_lend 83 = .ok (.invokestatic 44, 3) := by decide +kernel
theorem dX11_lend_86 : decode cX11_lend 86 = .ok (.dup2, 1) := by decide +kernel
theorem dX11_lend_87 : decode cX11_lend 87 = .ok (.laload, 1) := by decide +kernel
theorem dX11_lend_88 : decode cX11_lend 88 = .ok (.iload 4, 2) := by decide +kernel
theorem dX11_lend_90 : decode cX11_lend 90 = .ok (.i2l, 1) := by decide +kernel
theorem dX11_lend_91 : decode cX11_lend 91 = .ok (.lsub, 1) := by decide +kernel
theorem dX11_lend_92 : decode cX11_lend 92 = .ok (.lastore, 1) := by decide +kernel
theorem dX11_lend_93 : decode cX11_lend 93 = .ok (.aload_n 0, 1) := by decide +kernel
theorem dX11_lend_94 : decode cX11_lend 94 = .ok (.getfield 9, 3) := by decide +kernel
theorem dX11_lend_97 : decode cX11_lend 97 = .ok (.iload_n 2, 1) := by decide +kernel
theorem dX11_lend_98 : decode cX11_lend 98 = .ok (.iload_n 3, 1) := by decide +kernel
theorem dX11_lend_99 : decode cX11_lend 99 = .ok (.bipush 6, 2) := by decide +kernel
theorem dX11_lend_101 : decode cX11_lend 101 = .ok (.invokestatic 44, 3) := by decide +kernel
theorem dX11_lend_104 : decode cX11_lend 104 = .ok (.dup2, 1) := by decide +kernel
theorem dX11_lend_105 : decode cX11_lend 105 = .ok (.laload, 1) := by decide +kernel
theorem dX11_lend_106 : decode cX11_lend 106 = .ok (.iload 4, 2) := by decide +kernel
theorem dX11_lend_108 : decode cX11_lend 108 = .ok (.i2l, 1) := by decide +kernel
theorem dX11_lend_109 : decode cX11_lend 109 = .ok (.ladd, 1) := by decide +kernel
theorem dX11_lend_110 : decode cX11_lend 110 = .ok (.lastore, 1) := by decide +kernel
theorem dX11_lend_111 : decode cX11_lend 111 = .ok (.aload_n 0, 1) := by decide +kernel
theorem dX11_lend_112 : decode cX11_lend 112 = .ok (.iload_n 1, 1) := by decide +kernel
theorem dX11_lend_113 : decode cX11_lend 113 = .ok (.iload_n 3, 1) := by decide +kernel
theorem dX11_lend_114 : decode cX11_lend 114 = .ok (.bipush 6, 2) := by decide +kernel
theorem dX11_lend_116 : decode cX11_lend 116 = .ok (.invokevirtual 167, 3) := by decide +kernel
theorem dX11_lend_119 : decode cX11_lend 119 = .ok (.ireturn, 1) := by decide +kernel
theorem dX11_owedOf_0 : decode cX11_owedOf 0 = .ok (.aload_n 0, 1) := by decide +kernel
theorem dX11_owedOf_1 : decode cX11_owedOf 1 = .ok (.getfield 9, 3) := by decide +kernel
theorem dX11_owedOf_4 : decode cX11_owedOf 4 = .ok (.sipush 304, 3) := by decide +kernel
theorem dX11_owedOf_7 : decode cX11_owedOf 7 = .ok (.iload_n 1, 1) := by decide +kernel
theorem dX11_owedOf_8 : decode cX11_owedOf 8 = .ok (.iadd, 1) := by decide +kernel
theorem dX11_owedOf_9 : decode cX11_owedOf 9 = .ok (.laload, 1) := by decide +kernel
theorem dX11_owedOf_10 : decode cX11_owedOf 10 = .ok (.invokestatic 260, 3) := by decide +kernel
theorem dX11_owedOf_13 : decode cX11_owedOf 13 = .ok (.dreturn, 1) := by decide +kernel
theorem dX11_excess_0 : decode cX11_excess 0 = .ok (.aload_n 0, 1) := by decide +kernel
theorem dX11_excess_1 : decode cX11_excess 1 = .ok (.iload_n 1, 1) := by decide +kernel
theorem dX11_excess_2 : decode cX11_excess 2 = .ok (.iload_n 2, 1) := by decide +kernel
theorem dX11_excess_3 : decode cX11_excess 3 = .ok (.invokevirtual 236, 3) := by decide +kernel
theorem dX11_excess_6 : decode cX11_excess 6 = .ok (.ifCond .eq 23, 3) := by decide +kernel
theorem dX11_excess_9 : decode cX11_excess 9 = .ok (.iload_n 3, 1) := by decide +kernel
theorem dX11_excess_10 : decode cX11_excess 10 = .ok (.invokestatic 239, 3) := by decide +kernel
theorem dX11_excess_13 : decode cX11_excess 13 = .ok (.ifCond .eq 16, 3) := by decide +kernel
theorem dX11_excess_16 : decode cX11_excess 16 = .ok (.iload 4, 2) := by decide +kernel
theorem dX11_excess_18 : decode cX11_excess 18 = .ok (.i2l, 1) := by decide +kernel
theorem dX11_excess_19 : decode cX11_excess 19 = .ok (.lconst 1, 1) := by decide +kernel
theorem dX11_excess_20 : decode cX11_excess 20 = .ok (.ldc2_w 266, 3) := by decide +kernel
theorem dX11_excess_23 : decode cX11_excess 23 = .ok (.invokestatic 51, 3) := by decide +kernel
theorem dX11_excess_26 : decode cX11_excess 26 = .ok (.ifCond .ne 7, 3) := by decide +kernel
theorem dX11_excess_29 : decode cX11_excess 29 = .ok (.ldc2_w 268, 3) := by decide +kernel
theorem dX11_excess_32 : decode cX11_excess 32 = .ok (.lreturn, 1) := by decide +kernel
theorem dX11_excess_33 : decode cX11_excess 33 = .ok (.aload_n 0, 1) := by decide +kernel
theorem dX11_excess_34 : decode cX11_excess 34 = .ok (.invokevirtual 242, 3) := by decide +kernel
theorem dX11_excess_37 : decode cX11_excess 37 = .ok (.iload_n 3, 1) := by decide +kernel
theorem dX11_excess_38 : decode cX11_excess 38 = .ok (.i2l, 1) := by decide +kernel
theorem dX11_excess_39 : decode cX11_excess 39 = .ok (.iload 4, 2) := by decide +kernel
theorem dX11_excess_41 : decode cX11_excess 41 = .ok (.i2l, 1) := by decide +kernel
theorem dX11_excess_42 : decode cX11_excess 42 = .ok (.lmul, 1) := by decide +kernel
theorem dX11_excess_43 : decode cX11_excess 43 = .ok (.l2d, 1) := by decide +kernel
theorem dX11_excess_44 : decode cX11_excess 44 = .ok (.aload_n 0, 1) := by decide +kernel
theorem dX11_excess_45 : decode cX11_excess 45 = .ok (.getfield 9, 3) := by decide +kernel
theorem dX11_excess_48 : decode cX11_excess 48 = .ok (.iconst 4, 1) := by decide +kernel
theorem dX11_excess_49 : decode cX11_excess 49 = .ok (.laload, 1) := by decide +kernel
theorem dX11_excess_50 : decode cX11_excess 50 = .ok (.l2d, 1) := by decide +kernel
theorem dX11_excess_51 : decode cX11_excess 51 = .ok (.dmul, 1) := by decide +kernel
theorem dX11_excess_52 : decode cX11_excess 52 = .ok (.ldc2_w 270, 3) := by decide +kernel
theorem dX11_excess_55 : decode cX11_excess 55 = .ok (.ddiv, 1) := by decide +kernel
theorem dX11_excess_56 : decode cX11_excess 56 = .ok (.dstore 5, 2) := by decide +kernel
theorem dX11_excess_58 : decode cX11_excess 58 = .ok (.aload_n 0, 1) := by decide +kernel
theorem dX11_excess_59 : decode cX11_excess 59 = .ok (.getfield 9, 3) := by decide +kernel
theorem dX11_excess_62 : decode cX11_excess 62 = .ok (.sipush 304, 3) := by decide +kernel
theorem dX11_excess_65 : decode cX11_excess 65 = .ok (.iload_n 1, 1) := by decide +kernel
theorem dX11_excess_66 : decode cX11_excess 66 = .ok (.iadd, 1) := by decide +kernel
theorem dX11_excess_67 : decode cX11_excess 67 = .ok (.aload_n 0, 1) := by decide +kernel
theorem dX11_excess_68 : decode cX11_excess 68 = .ok (.iload_n 1, 1) := by decide +kernel
theorem dX11_excess_69 : decode cX11_excess 69 = .ok (.invokevirtual 272, 3) := by decide +kernel
theorem dX11_excess_72 : decode cX11_excess 72 = .ok (.dload 5, 2) := by decide +kernel
theorem dX11_excess_74 : decode cX11_excess 74 = .ok (.dadd, 1) := by decide +kernel
theorem dX11_excess_75 : decode cX11_excess 75 = .ok (.invokestatic 276, 3) := by decide +kernel
theorem dX11_excess_78 : decode cX11_excess 78 = .ok (.lastore, 1) := by decide +kernel
theorem dX11_excess_79 : decode cX11_excess 79 = .ok (.aload_n 0, 1) := by decide +kernel
theorem dX11_excess_80 : decode cX11_excess 80 = .ok (.getfield 9, 3) := by decide +kernel
theorem dX11_excess_83 : decode cX11_excess 83 = .ok (.iload_n 1, 1) := by decide +kernel
theorem dX11_excess_84 : decode cX11_excess 84 = .ok (.iload_n 2, 1) := by decide +kernel
theorem dX11_excess_85 : decode cX11_excess 85 = .ok (.iconst 3, 1) := by decide +kernel
theorem dX11_excess_86 : decode cX11_excess 86 = .ok (.invokestatic 44, 3) := by decide +kernel
theorem dX11_excess_89 : decode cX11_excess 89 = .ok (.dup2, 1) := by decide +kernel
theorem dX11_excess_90 : decode cX11_excess 90 = .ok (.laload, 1) := by decide +kernel
theorem dX11_excess_91 : decode cX11_excess 91 = .ok (.iload_n 3, 1) := by decide +kernel
theorem dX11_excess_92 : decode cX11_excess 92 = .ok (.i2l, 1) := by decide +kernel
theorem dX11_excess_93 : decode cX11_excess 93 = .ok (.ladd, 1) := by decide +kernel
theorem dX11_excess_94 : decode cX11_excess 94 = .ok (.lastore, 1) := by decide +kernel
theorem dX11_excess_95 : decode cX11_excess 95 = .ok (.aload_n 0, 1) := by decide +kernel
theorem dX11_excess_96 : decode cX11_excess 96 = .ok (.getfield 9, 3) := by decide +kernel
theorem dX11_excess_99 : decode cX11_excess 99 = .ok (.iload_n 2, 1) := by decide +kernel
theorem dX11_excess_100 : decode cX11_excess 100 = .ok (.bipush 6, 2) := by decide +kernel
theorem dX11_excess_102 : decode cX11_excess 102 = .ok (.invokestatic 40, 3) := by decide +kernel
theorem dX11_excess_105 : decode cX11_excess 105 = .ok (.dup2, 1) := by decide +kernel
theorem dX11_excess_106 : decode cX11_excess 106 = .ok (.laload, 1) := by decide +kernel
theorem dX11_excess_107 : decode cX11_excess 107 = .ok (.iload_n 3, 1) := by decide +kernel
theorem dX11_excess_108 : decode cX11_excess 108 = .ok (.i2l, 1) := by decide +kernel
theorem dX11_excess_109 : decode cX11_excess 109 = .ok (.ladd, 1) := by decide +kernel
theorem dX11_excess_110 : decode cX11_excess 110 = .ok (.lastore, 1) := by decide +kernel
theorem dX11_excess_111 : decode cX11_excess 111 = .ok (.aload_n 0, 1) := by decide +kernel
theorem dX11_excess_112 : decode cX11_excess 112 = .ok (.getfield 9, 3) := by decide +kernel
theorem dX11_excess_115 : decode cX11_excess 115 = .ok (.bipush 15, 2) := by decide +kernel
theorem dX11_excess_117 : decode cX11_excess 117 = .ok (.dup2, 1) := by decide +kernel
theorem dX11_excess_118 : decode cX11_excess 118 = .ok (.laload, 1) := by decide +kernel
theorem dX11_excess_119 : decode cX11_excess 119 = .ok (.iload_n 3, 1) := by decide +kernel
theorem dX11_excess_120 : decode cX11_excess 120 = .ok (.i2l, 1) := by decide +kernel
theorem dX11_excess_121 : decode cX11_excess 121 = .ok (.ladd, 1) := by decide +kernel
theorem dX11_excess_122 : decode cX11_excess 122 = .ok (.lastore, 1) := by decide +kernel
theorem dX11_excess_123 : decode cX11_excess 123 = .ok (.dload 5, 2) := by decide +kernel
theorem dX11_excess_125 : decode cX11_excess 125 = .ok (.invokestatic 276, 3) := by decide +kernel
theorem dX11_excess_128 : decode cX11_excess 128 = .ok (.lreturn, 1) := by decide +kernel
theorem dX11_dayGoes_0 : decode cX11_dayGoes 0 = .ok (.iconst 0, 1) := by decide +kernel
theorem dX11_dayGoes_1 : decode cX11_dayGoes 1 = .ok (.istore_n 1, 1) := by decide +kernel
theorem dX11_dayGoes_2 : decode cX11_dayGoes 2 = .ok (.iconst 0, 1) := by decide +kernel
theorem dX11_dayGoes_3 : decode cX11_dayGoes 3 = .ok (.istore_n 2, 1) := by decide +kernel
theorem dX11_dayGoes_4 : decode cX11_dayGoes 4 = .ok (.iload_n 2, 1) := by decide +kernel
theorem dX11_dayGoes_5 : decode cX11_dayGoes 5 = .ok (.aload_n 0, 1) := by decide +kernel
theorem dX11_dayGoes_6 : decode cX11_dayGoes 6 = .ok (.bipush 8, 2) := by decide +kernel
theorem dX11_dayGoes_8 : decode cX11_dayGoes 8 = .ok (.invokevirtual 164, 3) := by decide +kernel
theorem dX11_dayGoes_11 : decode cX11_dayGoes 11 = .ok (.if_icmp .ge 48, 3) := by decide +kernel
theorem dX11_dayGoes_14 : decode cX11_dayGoes 14 = .ok (.aload_n 0, 1) := by decide +kernel
theorem dX11_dayGoes_15 : decode cX11_dayGoes 15 = .ok (.iload_n 2, 1) := by decide +kernel
theorem dX11_dayGoes_16 : decode cX11_dayGoes 16 = .ok (.invokevirtual 199, 3) := by decide +kernel
theorem dX11_dayGoes_19 : decode cX11_dayGoes 19 = .ok (.ifCond .eq 34, 3) := by decide +kernel
theorem dX11_dayGoes_22 : decode cX11_dayGoes 22 = .ok (.aload_n 0, 1) := by decide +kernel
theorem dX11_dayGoes_23 : decode cX11_dayGoes 23 = .ok (.getfield 9, 3) := by decide +kernel
theorem dX11_dayGoes_26 : decode cX11_dayGoes 26 = .ok (.iload_n 2, 1) := by decide +kernel
theorem dX11_dayGoes_27 : decode cX11_dayGoes 27 = .ok (.bipush 6, 2) := by decide +kernel
theorem dX11_dayGoes_29 : decode cX11_dayGoes 29 = .ok (.invokestatic 48, 3) := by decide +kernel
theorem dX11_dayGoes_32 : decode cX11_dayGoes 32 = .ok (.laload, 1) := by decide +kernel
theorem dX11_dayGoes_33 : decode cX11_dayGoes 33 = .ok (.aload_n 0, 1) := by decide +kernel
theorem dX11_dayGoes_34 : decode cX11_dayGoes 34 = .ok (.getfield 9, 3) := by decide +kernel
theorem dX11_dayGoes_37 : decode cX11_dayGoes 37 = .ok (.bipush 9, 2) := by decide +kernel
theorem dX11_dayGoes_39 : decode cX11_dayGoes 39 = .ok (.laload, 1) := by decide +kernel
theorem dX11_dayGoes_40 : decode cX11_dayGoes 40 = .ok (.lcmp, 1) := by decide +kernel
theorem dX11_dayGoes_41 : decode cX11_dayGoes 41 = .ok (.ifCond .ne 12, 3) := by decide +kernel
theorem dX11_dayGoes_44 : decode cX11_dayGoes 44 = .ok (.iload_n 1, 1) := by decide +kernel
theorem dX11_dayGoes_45 : decode cX11_dayGoes 45 = .ok (.aload_n 0, 1) := by decide +kernel
theorem dX11_dayGoes_46 : decode cX11_dayGoes 46 = .ok (.iload_n 2, 1) := by decide +kernel
theorem dX11_dayGoes_47 : decode cX11_dayGoes 47 = .ok (.iconst 3, 1) := by decide +kernel
theorem dX11_dayGoes_48 : decode cX11_dayGoes 48 = .ok (.invokevirtual 253, 3) := by decide +kernel
theorem dX11_dayGoes_51 : decode cX11_dayGoes 51 = .ok (.iadd, 1) := by decide +kernel
theorem dX11_dayGoes_52 : decode cX11_dayGoes 52 = .ok (.istore_n 1, 1) := by decide +kernel
theorem dX11_dayGoes_53 : decode cX11_dayGoes 53 = .ok (.iinc 2 1, 3) := by decide +kernel
theorem dX11_dayGoes_56 : decode cX11_dayGoes 56 = .ok (.goto (-52), 3) := by decide +kernel
theorem dX11_dayGoes_59 : decode cX11_dayGoes 59 = .ok (.aload_n 0, 1) := by decide +kernel
theorem dX11_dayGoes_60 : decode cX11_dayGoes 60 = .ok (.getfield 9, 3) := by decide +kernel
theorem dX11_dayGoes_63 : decode cX11_dayGoes 63 = .ok (.bipush 9, 2) := by decide +kernel
theorem dX11_dayGoes_65 : decode cX11_dayGoes 65 = .ok (.dup2, 1) := by decide +kernel
theorem dX11_dayGoes_66 : decode cX11_dayGoes 66 = .ok (.laload, 1) := by decide +kernel
theorem dX11_dayGoes_67 : decode cX11_dayGoes 67 = .ok (.lconst 1, 1) := by decide +kernel
theorem dX11_dayGoes_68 : decode cX11_dayGoes 68 = .ok (.ladd, 1) := by decide +kernel
theorem dX11_dayGoes_69 : decode cX11_dayGoes 69 = .ok (.lastore, 1) := by decide +kernel
theorem dX11_dayGoes_70 : decode cX11_dayGoes 70 = .ok (.aload_n 0, 1) := by decide +kernel
theorem dX11_dayGoes_71 : decode cX11_dayGoes 71 = .ok (.getfield 9, 3) := by decide +kernel
theorem dX11_dayGoes_74 : decode cX11_dayGoes 74 = .ok (.bipush 9, 2) := by decide +kernel
theorem dX11_dayGoes_76 : decode cX11_dayGoes 76 = .ok (.laload, 1) := by decide +kernel
theorem dX11_dayGoes_77 : decode cX11_dayGoes 77 = .ok (.ldc2_w 212, 3) := by decide +kernel
theorem dX11_dayGoes_80 : decode cX11_dayGoes 80 = .ok (.lrem, 1) := by decide +kernel
theorem dX11_dayGoes_81 : decode cX11_dayGoes 81 = .ok (.lconst 0, 1) := by decide +kernel
theorem dX11_dayGoes_82 : decode cX11_dayGoes 82 = .ok (.lcmp, 1) := by decide +kernel
theorem dX11_dayGoes_83 : decode cX11_dayGoes 83 = .ok (.ifCond .ne 7, 3) := by decide +kernel
theorem dX11_dayGoes_86 : decode cX11_dayGoes 86 = .ok (.aload_n 0, 1) := by decide +kernel
theorem dX11_dayGoes_87 : decode cX11_dayGoes 87 = .ok (.invokevirtual 280, 3) := by decide +kernel
theorem dX11_dayGoes_90 : decode cX11_dayGoes 90 = .ok (.aload_n 0, 1) := by decide +kernel
theorem dX11_dayGoes_91 : decode cX11_dayGoes 91 = .ok (.getfield 9, 3) := by decide +kernel
theorem dX11_dayGoes_94 : decode cX11_dayGoes 94 = .ok (.bipush 9, 2) := by decide +kernel
theorem dX11_dayGoes_96 : decode cX11_dayGoes 96 = .ok (.laload, 1) := by decide +kernel
theorem dX11_dayGoes_97 : decode cX11_dayGoes 97 = .ok (.ldc2_w 180, 3) := by decide +kernel
theorem dX11_dayGoes_100 : decode cX11_dayGoes 100 = .ok (.lrem, 1) := by decide +kernel
theorem dX11_dayGoes_101 : decode cX11_dayGoes 101 = .ok (.lconst 0, 1) := by decide +kernel
theorem dX11_dayGoes_102 : decode cX11_dayGoes 102 = .ok (.lcmp, 1) := by decide +kernel
theorem dX11_dayGoes_103 : decode cX11_dayGoes 103 = .ok (.ifCond .ne 7, 3) := by decide +kernel
theorem dX11_dayGoes_106 : decode cX11_dayGoes 106 = .ok (.aload_n 0, 1) := by decide +kernel
theorem dX11_dayGoes_107 : decode cX11_dayGoes 107 = .ok (.invokevirtual 283, 3) := by decide +kernel
theorem dX11_dayGoes_110 : decode cX11_dayGoes 110 = .ok (.aload_n 0, 1) := by decide +kernel
theorem dX11_dayGoes_111 : decode cX11_dayGoes 111 = .ok (.getfield 9, 3) := by decide +kernel
theorem dX11_dayGoes_114 : decode cX11_dayGoes 114 = .ok (.bipush 9, 2) := by decide +kernel
theorem dX11_dayGoes_116 : decode cX11_dayGoes 116 = .ok (.laload, 1) := by decide +kernel
theorem dX11_dayGoes_117 : decode cX11_dayGoes 117 = .ok (.ldc2_w 212, 3) := by decide +kernel
theorem dX11_dayGoes_120 : decode cX11_dayGoes 120 = .ok (.lrem, 1) := by decide +kernel
theorem dX11_dayGoes_121 : decode cX11_dayGoes 121 = .ok (.lconst 0, 1) := by decide +kernel
theorem dX11_dayGoes_122 : decode cX11_dayGoes 122 = .ok (.lcmp, 1) := by decide +kernel
theorem dX11_dayGoes_123 : decode cX11_dayGoes 123 = .ok (.ifCond .ne 7, 3) := by decide +kernel
theorem dX11_dayGoes_126 : decode cX11_dayGoes 126 = .ok (.aload_n 0, 1) := by decide +kernel
theorem dX11_dayGoes_127 : decode cX11_dayGoes 127 = .ok (.invokevirtual 161, 3) := by decide +kernel
theorem dX11_dayGoes_130 : decode cX11_dayGoes 130 = .ok (.iload_n 1, 1) := by decide +kernel
theorem dX11_dayGoes_131 : decode cX11_dayGoes 131 = .ok (.ireturn, 1) := by decide +kernel
theorem dX11_days_0 : decode cX11_days 0 = .ok (.aload_n 0, 1) := by decide +kernel
theorem dX11_days_1 : decode cX11_days 1 = .ok (.invokevirtual 286, 3) := by decide +kernel
theorem dX11_days_4 : decode cX11_days 4 = .ok (.ifCond .eq 15, 3) := by decide +kernel
theorem dX11_days_7 : decode cX11_days 7 = .ok (.iload_n 1, 1) := by decide +kernel
theorem dX11_days_8 : decode cX11_days 8 = .ok (.i2l, 1) := by decide +kernel
theorem dX11_days_9 : decode cX11_days 9 = .ok (.lconst 1, 1) := by decide +kernel
theorem dX11_days_10 : decode cX11_days 10 = .ok (.ldc2_w 212, 3) := by decide +kernel
theorem dX11_days_13 : decode cX11_days 13 = .ok (.invokestatic 51, 3) := by decide +kernel
theorem dX11_days_16 : decode cX11_days 16 = .ok (.ifCond .ne 5, 3) := by decide +kernel
theorem dX11_days_19 : decode cX11_days 19 = .ok (.iconst (-1), 1) := by decide +kernel
theorem dX11_days_20 : decode cX11_days 20 = .ok (.ireturn, 1) := by decide +kernel
theorem dX11_days_21 : decode cX11_days 21 = .ok (.aload_n 0, 1) := by decide +kernel
theorem dX11_days_22 : decode cX11_days 22 = .ok (.getfield 9, 3) := by decide +kernel
theorem dX11_days_25 : decode cX11_days 25 = .ok (.bipush 9, 2) := by decide +kernel
theorem dX11_days_27 : decode cX11_days 27 = .ok (.laload, 1) := by decide +kernel
theorem dX11_days_28 : decode cX11_days 28 = .ok (.iload_n 1, 1) := by decide +kernel
theorem dX11_days_29 : decode cX11_days 29 = .ok (.i2l, 1) := by decide +kernel
theorem dX11_days_30 : decode cX11_days 30 = .ok (.ladd, 1) := by decide +kernel
theorem dX11_days_31 : decode cX11_days 31 = .ok (.ldc2_w 289, 3) := by decide +kernel
theorem dX11_days_34 : decode cX11_days 34 = .ok (.lcmp, 1) := by decide +kernel
theorem dX11_days_35 : decode cX11_days 35 = .ok (.ifCond .le 6, 3) := by decide +kernel
theorem dX11_days_38 : decode cX11_days 38 = .ok (.bipush (-2), 2) := by decide +kernel
theorem dX11_days_40 : decode cX11_days 40 = .ok (.ireturn, 1) := by decide +kernel
theorem dX11_days_41 : decode cX11_days 41 = .ok (.aload_n 0, 1) := by decide +kernel
theorem dX11_days_42 : decode cX11_days 42 = .ok (.invokevirtual 242, 3) := by decide +kernel
theorem dX11_days_45 : decode cX11_days 45 = .ok (.iconst 0, 1) := by decide +kernel
theorem dX11_days_46 : decode cX11_days 46 = .ok (.istore_n 2, 1) := by decide +kernel
theorem dX11_days_47 : decode cX11_days 47 = .ok (.iconst 0, 1) := by decide +kernel
theorem dX11_days_48 : decode cX11_days 48 = .ok (.istore_n 3, 1) := by decide +kernel
theorem dX11_days_49 : decode cX11_days 49 = .ok (.iload_n 3, 1) := by decide +kernel
theorem dX11_days_50 : decode cX11_days 50 = .ok (.iload_n 1, 1) := by decide +kernel
theorem dX11_days_51 : decode cX11_days 51 = .ok (.if_icmp .ge 16, 3) := by decide +kernel
theorem dX11_days_54 : decode cX11_days 54 = .ok (.iload_n 2, 1) := by decide +kernel
theorem dX11_days_55 : decode cX11_days 55 = .ok (.aload_n 0, 1) := by decide +kernel
theorem dX11_days_56 : decode cX11_days 56 = .ok (.invokevirtual 291, 3) := by decide +kernel
theorem dX11_days_59 : decode cX11_days 59 = .ok (.iadd, 1) := by decide +kernel
theorem dX11_days_60 : decode cX11_days 60 = .ok (.istore_n 2, 1) := by decide +kernel
theorem dX11_days_61 : decode cX11_days 61 = .ok (.iinc 3 1, 3) := by decide +kernel
theorem dX11_days_64 : decode cX11_days 64 = .ok (.goto (-15), 3) := by decide +kernel
theorem dX11_days_67 : decode cX11_days 67 = .ok (.iload_n 2, 1) := by decide +kernel
theorem dX11_days_68 : decode cX11_days 68 = .ok (.ireturn, 1) := by decide +kernel
theorem dX11_becomes_0 : decode cX11_becomes 0 = .ok (.aload_n 0, 1) := by decide +kernel
theorem dX11_becomes_1 : decode cX11_becomes 1 = .ok (.getfield 9, 3) := by decide +kernel
theorem dX11_becomes_4 : decode cX11_becomes 4 = .ok (.iload_n 1, 1) := by decide +kernel
theorem dX11_becomes_5 : decode cX11_becomes 5 = .ok (.laload, 1) := by decide +kernel
theorem dX11_becomes_6 : decode cX11_becomes 6 = .ok (.l2i, 1) := by decide +kernel
theorem dX11_becomes_7 : decode cX11_becomes 7 = .ok (.istore_n 3, 1) := by decide +kernel
theorem dX11_becomes_8 : decode cX11_becomes 8 = .ok (.iload_n 3, 1) := by decide +kernel
theorem dX11_becomes_9 : decode cX11_becomes 9 = .ok (.iload_n 2, 1) := by decide +kernel
theorem dX11_becomes_10 : decode cX11_becomes 10 = .ok (.if_icmp .ne 6, 3) := by decide +kernel
theorem dX11_becomes_13 : decode cX11_becomes 13 = .ok (.bipush (-2), 2) := by decide +kernel
theorem dX11_becomes_15 : decode cX11_becomes 15 = .ok (.ireturn, 1) := by decide +kernel
theorem dX11_becomes_16 : decode cX11_becomes 16 = .ok (.aload_n 0, 1) := by decide +kernel
theorem dX11_becomes_17 : decode cX11_becomes 17 = .ok (.invokevirtual 242, 3) := by decide +kernel
theorem dX11_becomes_20 : decode cX11_becomes 20 = .ok (.aload_n 0, 1) := by decide +kernel
theorem dX11_becomes_21 : decode cX11_becomes 21 = .ok (.getfield 9, 3) := by decide +kernel
theorem dX11_becomes_24 : decode cX11_becomes 24 = .ok (.iload_n 1, 1) := by decide +kernel
theorem dX11_becomes_25 : decode cX11_becomes 25 = .ok (.iload_n 2, 1) := by decide +kernel
theorem dX11_becomes_26 : decode cX11_becomes 26 = .ok (.i2l, 1) := by decide +kernel
theorem dX11_becomes_27 : decode cX11_becomes 27 = .ok (.lastore, 1) := by decide +kernel
theorem dX11_becomes_28 : decode cX11_becomes 28 = .ok (.iload_n 3, 1) := by decide +kernel
theorem dX11_becomes_29 : decode cX11_becomes 29 = .ok (.ireturn, 1) := by decide +kernel
theorem dX11_widen_0 : decode cX11_widen 0 = .ok (.aload_n 0, 1) := by decide +kernel
theorem dX11_widen_1 : decode cX11_widen 1 = .ok (.iload_n 1, 1) := by decide +kernel
theorem dX11_widen_2 : decode cX11_widen 2 = .ok (.invokevirtual 59, 3) := by decide +kernel
theorem dX11_widen_5 : decode cX11_widen 5 = .ok (.ifCond .eq 28, 3) := by decide +kernel
theorem dX11_widen_8 : decode cX11_widen 8 = .ok (.iload_n 2, 1) := by decide +kernel
theorem dX11_widen_9 : decode cX11_widen 9 = .ok (.i2l, 1) := by decide +kernel
theorem dX11_widen_10 : decode cX11_widen 10 = .ok (.lconst 0, 1) := by decide +kernel
theorem dX11_widen_11 : decode cX11_widen 11 = .ok (.ldc2_w 62, 3) := by decide +kernel
theorem dX11_widen_14 : decode cX11_widen 14 = .ok (.invokestatic 51, 3) := by decide +kernel
theorem dX11_widen_17 : decode cX11_widen 17 = .ok (.ifCond .eq 16, 3) := by decide +kernel
theorem dX11_widen_20 : decode cX11_widen 20 = .ok (.aload_n 0, 1) := by decide +kernel
theorem dX11_widen_21 : decode cX11_widen 21 = .ok (.iload_n 1, 1) := by decide +kernel
theorem dX11_widen_22 : decode cX11_widen 22 = .ok (.iconst 0, 1) := by decide +kernel
theorem dX11_widen_23 : decode cX11_widen 23 = .ok (.invokestatic 40, 3) := by decide +kernel
theorem dX11_widen_26 : decode cX11_widen 26 = .ok (.iload_n 2, 1) := by decide +kernel
theorem dX11_widen_27 : decode cX11_widen 27 = .ok (.invokevirtual 294, 3) := by decide +kernel
theorem dX11_widen_30 : decode cX11_widen 30 = .ok (.goto 4, 3) := by decide +kernel
theorem dX11_widen_33 : decode cX11_widen 33 = .ok (.iconst (-1), 1) := by decide +kernel
theorem dX11_widen_34 : decode cX11_widen 34 = .ok (.ireturn, 1) := by decide +kernel
theorem dX11_set_0 : decode cX11_set 0 = .ok (.aload_n 0, 1) := by decide +kernel
theorem dX11_set_1 : decode cX11_set 1 = .ok (.invokevirtual 286, 3) := by decide +kernel
theorem dX11_set_4 : decode cX11_set 4 = .ok (.ifCond .eq 42, 3) := by decide +kernel
theorem dX11_set_7 : decode cX11_set 7 = .ok (.iload_n 1, 1) := by decide +kernel
theorem dX11_set_8 : decode cX11_set 8 = .ok (.i2l, 1) := by decide +kernel
theorem dX11_set_9 : decode cX11_set 9 = .ok (.lconst 0, 1) := by decide +kernel
theorem dX11_set_10 : decode cX11_set 10 = .ok (.ldc2_w 297, 3) := by decide +kernel
theorem dX11_set_13 : decode cX11_set 13 = .ok (.invokestatic 51, 3) := by decide +kernel
theorem dX11_set_16 : decode cX11_set 16 = .ok (.ifCond .eq 30, 3) := by decide +kernel
theorem dX11_set_19 : decode cX11_set 19 = .ok (.iload_n 2, 1) := by decide +kernel
theorem dX11_set_20 : decode cX11_set 20 = .ok (.i2l, 1) := by decide +kernel
theorem dX11_set_21 : decode cX11_set 21 = .ok (.iload_n 1, 1) := by decide +kernel
theorem dX11_set_22 : decode cX11_set 22 = .ok (.invokestatic 144, 3) := by decide +kernel
theorem dX11_set_25 : decode cX11_set 25 = .ok (.i2l, 1) := by decide +kernel
theorem dX11_set_26 : decode cX11_set 26 = .ok (.iload_n 1, 1) := by decide +kernel
theorem dX11_set_27 : decode cX11_set 27 = .ok (.invokestatic 148, 3) := by decide +kernel
theorem dX11_set_30 : decode cX11_set 30 = .ok (.i2l, 1) := by decide +kernel
theorem dX11_set_31 : decode cX11_set 31 = .ok (.invokestatic 51, 3) := by decide +kernel
theorem dX11_set_34 : decode cX11_set 34 = .ok (.ifCond .eq 12, 3) := by decide +kernel
theorem dX11_set_37 : decode cX11_set 37 = .ok (.aload_n 0, 1) := by decide +kernel
theorem dX11_set_38 : decode cX11_set 38 = .ok (.iload_n 1, 1) := by decide +kernel
theorem dX11_set_39 : decode cX11_set 39 = .ok (.iload_n 2, 1) := by decide +kernel
theorem dX11_set_40 : decode cX11_set 40 = .ok (.invokevirtual 294, 3) := by decide +kernel
theorem dX11_set_43 : decode cX11_set 43 = .ok (.goto 4, 3) := by decide +kernel
theorem dX11_set_46 : decode cX11_set 46 = .ok (.iconst (-1), 1) := by decide +kernel
theorem dX11_set_47 : decode cX11_set 47 = .ok (.ireturn, 1) := by decide +kernel
theorem dX11_told_0 : decode cX11_told 0 = .ok (.aload_n 0, 1) := by decide +kernel
theorem dX11_told_1 : decode cX11_told 1 = .ok (.invokevirtual 286, 3) := by decide +kernel
theorem dX11_told_4 : decode cX11_told 4 = .ok (.ifCond .eq 23, 3) := by decide +kernel
theorem dX11_told_7 : decode cX11_told 7 = .ok (.iload_n 1, 1) := by decide +kernel
theorem dX11_told_8 : decode cX11_told 8 = .ok (.i2l, 1) := by decide +kernel
theorem dX11_told_9 : decode cX11_told 9 = .ok (.lconst 0, 1) := by decide +kernel
theorem dX11_told_10 : decode cX11_told 10 = .ok (.ldc2_w 297, 3) := by decide +kernel
theorem dX11_told_13 : decode cX11_told 13 = .ok (.invokestatic 51, 3) := by decide +kernel
theorem dX11_told_16 : decode cX11_told 16 = .ok (.ifCond .eq 11, 3) := by decide +kernel
theorem dX11_told_19 : decode cX11_told 19 = .ok (.aload_n 0, 1) := by decide +kernel
theorem dX11_told_20 : decode cX11_told 20 = .ok (.iload_n 1, 1) := by decide +kernel
theorem dX11_told_21 : decode cX11_told 21 = .ok (.invokevirtual 164, 3) := by decide +kernel
theorem dX11_told_24 : decode cX11_told 24 = .ok (.goto 4, 3) := by decide +kernel
theorem dX11_told_27 : decode cX11_told 27 = .ok (.iconst (-1), 1) := by decide +kernel
theorem dX11_told_28 : decode cX11_told 28 = .ok (.ireturn, 1) := by decide +kernel
theorem dX11_origin_0 : decode cX11_origin 0 = .ok (.aload_n 0, 1) := by decide +kernel
theorem dX11_origin_1 : decode cX11_origin 1 = .ok (.iload_n 1, 1) := by decide +kernel
theorem dX11_origin_2 : decode cX11_origin 2 = .ok (.invokevirtual 59, 3) := by decide +kernel
theorem dX11_origin_5 : decode cX11_origin 5 = .ok (.ifCond .eq 24, 3) := by decide +kernel
theorem dX11_origin_8 : decode cX11_origin 8 = .ok (.iload_n 2, 1) := by decide +kernel
theorem dX11_origin_9 : decode cX11_origin 9 = .ok (.i2l, 1) := by decide +kernel
theorem dX11_origin_10 : decode cX11_origin 10 = .ok (.lconst 0, 1) := by decide +kernel
theorem dX11_origin_11 : decode cX11_origin 11 = .ok (.ldc2_w 299, 3) := by decide +kernel
theorem dX11_origin_14 : decode cX11_origin 14 = .ok (.invokestatic 51, 3) := by decide +kernel
theorem dX11_origin_17 : decode cX11_origin 17 = .ok (.ifCond .eq 12, 3) := by decide +kernel
theorem dX11_origin_20 : decode cX11_origin 20 = .ok (.aload_n 0, 1) := by decide +kernel
theorem dX11_origin_21 : decode cX11_origin 21 = .ok (.iload_n 1, 1) := by decide +kernel
theorem dX11_origin_22 : decode cX11_origin 22 = .ok (.iload_n 2, 1) := by decide +kernel
theorem dX11_origin_23 : decode cX11_origin 23 = .ok (.invokevirtual 226, 3) := by decide +kernel
theorem dX11_origin_26 : decode cX11_origin 26 = .ok (.goto 4, 3) := by decide +kernel
theorem dX11_origin_29 : decode cX11_origin 29 = .ok (.iconst (-1), 1) := by decide +kernel
theorem dX11_origin_30 : decode cX11_origin 30 = .ok (.ireturn, 1) := by decide +kernel
theorem dX11_past_0 : decode cX11_past 0 = .ok (.aload_n 0, 1) := by decide +kernel
theorem dX11_past_1 : decode cX11_past 1 = .ok (.iload_n 1, 1) := by decide +kernel
theorem dX11_past_2 : decode cX11_past 2 = .ok (.iload_n 2, 1) := by decide +kernel
theorem dX11_past_3 : decode cX11_past 3 = .ok (.invokevirtual 236, 3) := by decide +kernel
theorem dX11_past_6 : decode cX11_past 6 = .ok (.ifCond .eq 27, 3) := by decide +kernel
theorem dX11_past_9 : decode cX11_past 9 = .ok (.iload_n 3, 1) := by decide +kernel
theorem dX11_past_10 : decode cX11_past 10 = .ok (.i2l, 1) := by decide +kernel
theorem dX11_past_11 : decode cX11_past 11 = .ok (.lconst 0, 1) := by decide +kernel
theorem dX11_past_12 : decode cX11_past 12 = .ok (.ldc2_w 301, 3) := by decide +kernel
theorem dX11_past_15 : decode cX11_past 15 = .ok (.invokestatic 51, 3) := by decide +kernel
theorem dX11_past_18 : decode cX11_past 18 = .ok (.ifCond .eq 15, 3) := by decide +kernel
theorem dX11_past_21 : decode cX11_past 21 = .ok (.aload_n 0, 1) := by decide +kernel
theorem dX11_past_22 : decode cX11_past 22 = .ok (.iload_n 1, 1) := by decide +kernel
theorem dX11_past_23 : decode cX11_past 23 = .ok (.iload_n 2, 1) := by decide +kernel
theorem dX11_past_24 : decode cX11_past 24 = .ok (.iconst 0, 1) := by decide +kernel
theorem dX11_past_25 : decode cX11_past 25 = .ok (.iload_n 3, 1) := by decide +kernel
theorem dX11_past_26 : decode cX11_past 26 = .ok (.iadd, 1) := by decide +kernel
theorem dX11_past_27 : decode cX11_past 27 = .ok (.invokevirtual 167, 3) := by decide +kernel
theorem dX11_past_30 : decode cX11_past 30 = .ok (.goto 4, 3) := by decide +kernel
theorem dX11_past_33 : decode cX11_past 33 = .ok (.iconst (-1), 1) := by decide +kernel
theorem dX11_past_34 : decode cX11_past 34 = .ok (.ireturn, 1) := by decide +kernel
theorem dX11_sort_0 : decode cX11_sort 0 = .ok (.aload_n 0, 1) := by decide +kernel
theorem dX11_sort_1 : decode cX11_sort 1 = .ok (.iload_n 1, 1) := by decide +kernel
theorem dX11_sort_2 : decode cX11_sort 2 = .ok (.iload_n 2, 1) := by decide +kernel
theorem dX11_sort_3 : decode cX11_sort 3 = .ok (.invokevirtual 236, 3) := by decide +kernel
theorem dX11_sort_6 : decode cX11_sort 6 = .ok (.ifCond .eq 13, 3) := by decide +kernel
theorem dX11_sort_9 : decode cX11_sort 9 = .ok (.aload_n 0, 1) := by decide +kernel
theorem dX11_sort_10 : decode cX11_sort 10 = .ok (.iload_n 1, 1) := by decide +kernel
theorem dX11_sort_11 : decode cX11_sort 11 = .ok (.iload_n 2, 1) := by decide +kernel
theorem dX11_sort_12 : decode cX11_sort 12 = .ok (.iconst 4, 1) := by decide +kernel
theorem dX11_sort_13 : decode cX11_sort 13 = .ok (.invokevirtual 167, 3) := by decide +kernel
theorem dX11_sort_16 : decode cX11_sort 16 = .ok (.goto 4, 3) := by decide +kernel
theorem dX11_sort_19 : decode cX11_sort 19 = .ok (.iconst (-1), 1) := by decide +kernel
theorem dX11_sort_20 : decode cX11_sort 20 = .ok (.ireturn, 1) := by decide +kernel
theorem dX11_mean_0 : decode cX11_mean 0 = .ok (.aload_n 0, 1) := by decide +kernel
theorem dX11_mean_1 : decode cX11_mean 1 = .ok (.iload_n 1, 1) := by decide +kernel
theorem dX11_mean_2 : decode cX11_mean 2 = .ok (.iload_n 2, 1) := by decide +kernel
theorem dX11_mean_3 : decode cX11_mean 3 = .ok (.invokevirtual 236, 3) := by decide +kernel
theorem dX11_mean_6 : decode cX11_mean 6 = .ok (.ifCond .eq 20, 3) := by decide +kernel
theorem dX11_mean_9 : decode cX11_mean 9 = .ok (.aload_n 0, 1) := by decide +kernel
theorem dX11_mean_10 : decode cX11_mean 10 = .ok (.iload_n 1, 1) := by decide +kernel
theorem dX11_mean_11 : decode cX11_mean 11 = .ok (.iload_n 2, 1) := by decide +kernel
theorem dX11_mean_12 : decode cX11_mean 12 = .ok (.invokevirtual 170, 3) := by decide +kernel
theorem dX11_mean_15 : decode cX11_mean 15 = .ok (.l2d, 1) := by decide +kernel
theorem dX11_mean_16 : decode cX11_mean 16 = .ok (.ldc2_w 303, 3) := by decide +kernel
theorem dX11_mean_19 : decode cX11_mean 19 = .ok (.ddiv, 1) := by decide +kernel
theorem dX11_mean_20 : decode cX11_mean 20 = .ok (.invokestatic 276, 3) := by decide +kernel
theorem dX11_mean_23 : decode cX11_mean 23 = .ok (.goto 6, 3) := by decide +kernel
theorem dX11_mean_26 : decode cX11_mean 26 = .ok (.ldc2_w 268, 3) := by decide +kernel
theorem dX11_mean_29 : decode cX11_mean 29 = .ok (.lreturn, 1) := by decide +kernel
theorem dX11_share_0 : decode cX11_share 0 = .ok (.aload_n 0, 1) := by decide +kernel
theorem dX11_share_1 : decode cX11_share 1 = .ok (.iload_n 1, 1) := by decide +kernel
theorem dX11_share_2 : decode cX11_share 2 = .ok (.iload_n 2, 1) := by decide +kernel
theorem dX11_share_3 : decode cX11_share 3 = .ok (.invokevirtual 236, 3) := by decide +kernel
theorem dX11_share_6 : decode cX11_share 6 = .ok (.ifCond .eq 25, 3) := by decide +kernel
theorem dX11_share_9 : decode cX11_share 9 = .ok (.iload_n 3, 1) := by decide +kernel
theorem dX11_share_10 : decode cX11_share 10 = .ok (.i2l, 1) := by decide +kernel
theorem dX11_share_11 : decode cX11_share 11 = .ok (.lconst 0, 1) := by decide +kernel
theorem dX11_share_12 : decode cX11_share 12 = .ok (.lconst 1, 1) := by decide +kernel
theorem dX11_share_13 : decode cX11_share 13 = .ok (.invokestatic 51, 3) := by decide +kernel
theorem dX11_share_16 : decode cX11_share 16 = .ok (.ifCond .eq 15, 3) := by decide +kernel
theorem dX11_share_19 : decode cX11_share 19 = .ok (.aload_n 0, 1) := by decide +kernel
theorem dX11_share_20 : decode cX11_share 20 = .ok (.iload_n 1, 1) := by decide +kernel
theorem dX11_share_21 : decode cX11_share 21 = .ok (.iload_n 2, 1) := by decide +kernel
theorem dX11_share_22 : decode cX11_share 22 = .ok (.iconst 5, 1) := by decide +kernel
theorem dX11_share_23 : decode cX11_share 23 = .ok (.iload_n 3, 1) := by decide +kernel
theorem dX11_share_24 : decode cX11_share 24 = .ok (.iadd, 1) := by decide +kernel
theorem dX11_share_25 : decode cX11_share 25 = .ok (.invokevirtual 167, 3) := by decide +kernel
theorem dX11_share_28 : decode cX11_share 28 = .ok (.goto 4, 3) := by decide +kernel
theorem dX11_share_31 : decode cX11_share 31 = .ok (.iconst (-1), 1) := by decide +kernel
theorem dX11_share_32 : decode cX11_share 32 = .ok (.ireturn, 1) := by decide +kernel
theorem dX11_licence_0 : decode cX11_licence 0 = .ok (.aload_n 0, 1) := by decide +kernel
theorem dX11_licence_1 : decode cX11_licence 1 = .ok (.iload_n 1, 1) := by decide +kernel
theorem dX11_licence_2 : decode cX11_licence 2 = .ok (.invokevirtual 248, 3) := by decide +kernel
theorem dX11_licence_5 : decode cX11_licence 5 = .ok (.ifCond .eq 15, 3) := by decide +kernel
theorem dX11_licence_8 : decode cX11_licence 8 = .ok (.iload_n 2, 1) := by decide +kernel
theorem dX11_licence_9 : decode cX11_licence 9 = .ok (.i2l, 1) := by decide +kernel
theorem dX11_licence_10 : decode cX11_licence 10 = .ok (.lconst 0, 1) := by decide +kernel
theorem dX11_licence_11 : decode cX11_licence 11 = .ok (.ldc2_w 299, 3) := by decide +kernel
theorem dX11_licence_14 : decode cX11_licence 14 = .ok (.invokestatic 51, 3) := by decide +kernel
theorem dX11_licence_17 : decode cX11_licence 17 = .ok (.ifCond .ne 5, 3) := by decide +kernel
theorem dX11_licence_20 : decode cX11_licence 20 = .ok (.iconst (-1), 1) := by decide +kernel
theorem dX11_licence_21 : decode cX11_licence 21 = .ok (.ireturn, 1) := by decide +kernel
theorem dX11_licence_22 : decode cX11_licence 22 = .ok (.iload_n 2, 1) := by decide +kernel
theorem dX11_licence_23 : decode cX11_licence 23 = .ok (.bipush 7, 2) := by decide +kernel
theorem dX11_licence_25 : decode cX11_licence 25 = .ok (.if_icmp .ne 11, 3) := by decide +kernel
theorem dX11_licence_28 : decode cX11_licence 28 = .ok (.aload_n 0, 1) := by decide +kernel
theorem dX11_licence_29 : decode cX11_licence 29 = .ok (.iload_n 1, 1) := by decide +kernel
theorem dX11_licence_30 : decode cX11_licence 30 = .ok (.invokevirtual 214, 3) := by decide +kernel
theorem dX11_licence_33 : decode cX11_licence 33 = .ok (.goto 9, 3) := by decide +kernel
theorem dX11_licence_36 : decode cX11_licence 36 = .ok (.aload_n 0, 1) := by decide +kernel
theorem dX11_licence_37 : decode cX11_licence 37 = .ok (.iload_n 1, 1) := by decide +kernel
theorem dX11_licence_38 : decode cX11_licence 38 = .ok (.iload_n 2, 1) := by decide +kernel
theorem dX11_licence_39 : decode cX11_licence 39 = .ok (.invokevirtual 196, 3) := by decide +kernel
theorem dX11_licence_42 : decode cX11_licence 42 = .ok (.ireturn, 1) := by decide +kernel
theorem dX11_month_0 : decode cX11_month 0 = .ok (.aload_n 0, 1) := by decide +kernel
theorem dX11_month_1 : decode cX11_month 1 = .ok (.iload_n 1, 1) := by decide +kernel
theorem dX11_month_2 : decode cX11_month 2 = .ok (.invokevirtual 55, 3) := by decide +kernel
theorem dX11_month_5 : decode cX11_month 5 = .ok (.ifCond .eq 34, 3) := by decide +kernel
theorem dX11_month_8 : decode cX11_month 8 = .ok (.iload_n 2, 1) := by decide +kernel
theorem dX11_month_9 : decode cX11_month 9 = .ok (.i2l, 1) := by decide +kernel
theorem dX11_month_10 : decode cX11_month 10 = .ok (.lconst 0, 1) := by decide +kernel
theorem dX11_month_11 : decode cX11_month 11 = .ok (.ldc2_w 305, 3) := by decide +kernel
theorem dX11_month_14 : decode cX11_month 14 = .ok (.invokestatic 51, 3) := by decide +kernel
theorem dX11_month_17 : decode cX11_month 17 = .ok (.ifCond .eq 22, 3) := by decide +kernel
theorem dX11_month_20 : decode cX11_month 20 = .ok (.aload_n 0, 1) := by decide +kernel
theorem dX11_month_21 : decode cX11_month 21 = .ok (.getfield 9, 3) := by decide +kernel
theorem dX11_month_24 : decode cX11_month 24 = .ok (.sipush 312, 3) := by decide +kernel
theorem dX11_month_27 : decode cX11_month 27 = .ok (.bipush 12, 2) := by decide +kernel
theorem dX11_month_29 : decode cX11_month 29 = .ok (.iload_n 1, 1) := by decide +kernel
theorem dX11_month_30 : decode cX11_month 30 = .ok (.imul, 1) := by decide +kernel
theorem dX11_month_31 : decode cX11_month 31 = .ok (.iadd, 1) := by decide +kernel
theorem dX11_month_32 : decode cX11_month 32 = .ok (.iload_n 2, 1) := by decide +kernel
theorem dX11_month_33 : decode cX11_month 33 = .ok (.iadd, 1) := by decide +kernel
theorem dX11_month_34 : decode cX11_month 34 = .ok (.laload, 1) := by decide +kernel
theorem dX11_month_35 : decode cX11_month 35 = .ok (.l2i, 1) := by decide +kernel
theorem dX11_month_36 : decode cX11_month 36 = .ok (.goto 4, 3) := by decide +kernel
theorem dX11_month_39 : decode cX11_month 39 = .ok (.iconst (-1), 1) := by decide +kernel
theorem dX11_month_40 : decode cX11_month 40 = .ok (.ireturn, 1) := by decide +kernel
theorem dX11_rateOf_0 : decode cX11_rateOf 0 = .ok (.lconst 0, 1) := by decide +kernel
theorem dX11_rateOf_1 : decode cX11_rateOf 1 = .ok (.lstore_n 2, 1) := by decide +kernel
theorem dX11_rateOf_2 : decode cX11_rateOf 2 = .ok (.lconst 0, 1) := by decide +kernel
theorem dX11_rateOf_3 : decode cX11_rateOf 3 = .ok (.lstore 4, 2) := by decide +kernel
theorem dX11_rateOf_5 : decode cX11_rateOf 5 = .ok (.iconst 0, 1) := by decide +kernel
theorem dX11_rateOf_6 : decode cX11_rateOf 6 = .ok (.istore 6, 2) := by decide +kernel
theorem dX11_rateOf_8 : decode cX11_rateOf 8 = .ok (.iload 6, 2) := by decide +kernel
theorem dX11_rateOf_10 : decode cX11_rateOf 10 = .ok (.aload_n 0, 1) := by decide +kernel
theorem dX11_rateOf_11 : decode cX11_rateOf 11 = .ok (.bipush 8, 2) := by decide +kernel
theorem dX11_rateOf_13 : decode cX11_rateOf 13 = .ok (.invokevirtual 164, 3) := by decide +kernel
theorem dX11_rateOf_16 : decode cX11_rateOf 16 = .ok (.if_icmp .ge 59, 3) := by decide +kernel
theorem dX11_rateOf_19 : decode cX11_rateOf 19 = .ok (.aload_n 0, 1) := by decide +kernel
theorem dX11_rateOf_20 : decode cX11_rateOf 20 = .ok (.iload 6, 2) := by decide +kernel
theorem dX11_rateOf_22 : decode cX11_rateOf 22 = .ok (.iconst 0, 1) := by decide +kernel
theorem dX11_rateOf_23 : decode cX11_rateOf 23 = .ok (.invokevirtual 196, 3) := by decide +kernel
theorem dX11_rateOf_26 : decode cX11_rateOf 26 = .ok (.iload_n 1, 1) := by decide +kernel
theorem dX11_rateOf_27 : decode cX11_rateOf 27 = .ok (.if_icmp .ne 42, 3) := by decide +kernel
theorem dX11_rateOf_30 : decode cX11_rateOf 30 = .ok (.aload_n 0, 1) := by decide +kernel
theorem dX11_rateOf_31 : decode cX11_rateOf 31 = .ok (.iload 6, 2) := by decide +kernel
theorem dX11_rateOf_33 : decode cX11_rateOf 33 = .ok (.invokevirtual 199, 3) := by decide +kernel
theorem dX11_rateOf_36 : decode cX11_rateOf 36 = .ok (.ifCond .ne 33, 3) := by decide +kernel
theorem dX11_rateOf_39 : decode cX11_rateOf 39 = .ok (.lload_n 2, 1) := by decide +kernel
theorem dX11_rateOf_40 : decode cX11_rateOf 40 = .ok (.aload_n 0, 1) := by decide +kernel
theorem dX11_rateOf_41 : decode cX11_rateOf 41 = .ok (.getfield 9, 3) := by decide +kernel
theorem dX11_rateOf_44 : decode cX11_rateOf 44 = .ok (.iload 6, 2) := by decide +kernel
theorem dX11_rateOf_46 : decode cX11_rateOf 46 = .ok (.iconst 4, 1) := by decide +kernel
theorem dX11_rateOf_47 : decode cX11_rateOf 47 = .ok (.invokestatic 48, 3) := by decide +kernel
theorem dX11_rateOf_50 : decode cX11_rateOf 50 = .ok (.laload, 1) := by decide +kernel
theorem dX11_rateOf_51 : decode cX11_rateOf 51 = .ok (.ladd, 1) := by decide +kernel
theorem dX11_rateOf_52 : decode cX11_rateOf 52 = .ok (.lstore_n 2, 1) := by decide +kernel
theorem dX11_rateOf_53 : decode cX11_rateOf 53 = .ok (.lload 4, 2) := by decide +kernel
theorem dX11_rateOf_55 : decode cX11_rateOf 55 = .ok (.aload_n 0, 1) := by decide +kernel
theorem dX11_rateOf_56 : decode cX11_rateOf 56 = .ok (.getfield 9, 3) := by decide +kernel
theorem dX11_rateOf_59 : decode cX11_rateOf 59 = .ok (.iload 6, 2) := by decide +kernel
theorem dX11_rateOf_61 : decode cX11_rateOf 61 = .ok (.iconst 2, 1) := by decide +kernel
theorem dX11_rateOf_62 : decode cX11_rateOf 62 = .ok (.invokestatic 48, 3) := by decide +kernel
theorem dX11_rateOf_65 : decode cX11_rateOf 65 = .ok (.laload, 1) := by decide +kernel
theorem dX11_rateOf_66 : decode cX11_rateOf 66 = .ok (.ladd, 1) := by decide +kernel
theorem dX11_rateOf_67 : decode cX11_rateOf 67 = .ok (.lstore 4, 2) := by decide +kernel
theorem dX11_rateOf_69 : decode cX11_rateOf 69 = .ok (.iinc 6 1, 3) := by decide +kernel
theorem dX11_rateOf_72 : decode cX11_rateOf 72 = .ok (.goto (-64), 3) := by decide +kernel
theorem dX11_rateOf_75 : decode cX11_rateOf 75 = .ok (.lload 4, 2) := by decide +kernel
theorem dX11_rateOf_77 : decode cX11_rateOf 77 = .ok (.lconst 0, 1) := by decide +kernel
theorem dX11_rateOf_78 : decode cX11_rateOf 78 = .ok (.lcmp, 1) := by decide +kernel
theorem dX11_rateOf_79 : decode cX11_rateOf 79 = .ok (.ifCond .ne 9, 3) := by decide +kernel
theorem dX11_rateOf_82 : decode cX11_rateOf 82 = .ok (.ldc2_w 307, 3) := by decide +kernel
theorem dX11_rateOf_85 : decode cX11_rateOf 85 = .ok (.goto 9, 3) := by decide +kernel
theorem dX11_rateOf_88 : decode cX11_rateOf 88 = .ok (.lload_n 2, 1) := by decide +kernel
theorem dX11_rateOf_89 : decode cX11_rateOf 89 = .ok (.l2d, 1) := by decide +kernel
theorem dX11_rateOf_90 : decode cX11_rateOf 90 = .ok (.lload 4, 2) := by decide +kernel
theorem dX11_rateOf_92 : decode cX11_rateOf 92 = .ok (.l2d, 1) := by decide +kernel
theorem dX11_rateOf_93 : decode cX11_rateOf 93 = .ok (.ddiv, 1) := by decide +kernel
theorem dX11_rateOf_94 : decode cX11_rateOf 94 = .ok (.dreturn, 1) := by decide +kernel
theorem dX11_rate_0 : decode cX11_rate 0 = .ok (.aload_n 0, 1) := by decide +kernel
theorem dX11_rate_1 : decode cX11_rate 1 = .ok (.iload_n 1, 1) := by decide +kernel
theorem dX11_rate_2 : decode cX11_rate 2 = .ok (.invokevirtual 55, 3) := by decide +kernel
theorem dX11_rate_5 : decode cX11_rate 5 = .ok (.ifCond .eq 14, 3) := by decide +kernel
theorem dX11_rate_8 : decode cX11_rate 8 = .ok (.aload_n 0, 1) := by decide +kernel
theorem dX11_rate_9 : decode cX11_rate 9 = .ok (.iload_n 1, 1) := by decide +kernel
theorem dX11_rate_10 : decode cX11_rate 10 = .ok (.invokevirtual 309, 3) := by decide +kernel
theorem dX11_rate_13 : decode cX11_rate 13 = .ok (.invokestatic 276, 3) := by decide +kernel
theorem dX11_rate_16 : decode cX11_rate 16 = .ok (.goto 6, 3) := by decide +kernel
theorem dX11_rate_19 : decode cX11_rate 19 = .ok (.ldc2_w 268, 3) := by decide +kernel
theorem dX11_rate_22 : decode cX11_rate 22 = .ok (.lreturn, 1) := by decide +kernel
theorem dX11_idle_0 : decode cX11_idle 0 = .ok (.aload_n 0, 1) := by decide +kernel
theorem dX11_idle_1 : decode cX11_idle 1 = .ok (.iload_n 1, 1) := by decide +kernel
theorem dX11_idle_2 : decode cX11_idle 2 = .ok (.iload_n 2, 1) := by decide +kernel
theorem dX11_idle_3 : decode cX11_idle 3 = .ok (.invokevirtual 236, 3) := by decide +kernel
theorem dX11_idle_6 : decode cX11_idle 6 = .ok (.ifCond .eq 15, 3) := by decide +kernel
theorem dX11_idle_9 : decode cX11_idle 9 = .ok (.aload_n 0, 1) := by decide +kernel
theorem dX11_idle_10 : decode cX11_idle 10 = .ok (.iload_n 1, 1) := by decide +kernel
theorem dX11_idle_11 : decode cX11_idle 11 = .ok (.iload_n 2, 1) := by decide +kernel
theorem dX11_idle_12 : decode cX11_idle 12 = .ok (.invokevirtual 223, 3) := by decide +kernel
theorem dX11_idle_15 : decode cX11_idle 15 = .ok (.invokestatic 122, 3) := by decide +kernel
theorem dX11_idle_18 : decode cX11_idle 18 = .ok (.goto 4, 3) := by decide +kernel
theorem dX11_idle_21 : decode cX11_idle 21 = .ok (.iconst (-1), 1) := by decide +kernel
theorem dX11_idle_22 : decode cX11_idle 22 = .ok (.ireturn, 1) := by decide +kernel
theorem dX11_owed_0 : decode cX11_owed 0 = .ok (.aload_n 0, 1) := by decide +kernel
theorem dX11_owed_1 : decode cX11_owed 1 = .ok (.iload_n 1, 1) := by decide +kernel
theorem dX11_owed_2 : decode cX11_owed 2 = .ok (.invokevirtual 55, 3) := by decide +kernel
theorem dX11_owed_5 : decode cX11_owed 5 = .ok (.ifCond .eq 16, 3) := by decide +kernel
theorem dX11_owed_8 : decode cX11_owed 8 = .ok (.aload_n 0, 1) := by decide +kernel
theorem dX11_owed_9 : decode cX11_owed 9 = .ok (.getfield 9, 3) := by decide +kernel
theorem dX11_owed_12 : decode cX11_owed 12 = .ok (.sipush 304, 3) := by decide +kernel
theorem dX11_owed_15 : decode cX11_owed 15 = .ok (.iload_n 1, 1) := by decide +kernel
theorem dX11_owed_16 : decode cX11_owed 16 = .ok (.iadd, 1) := by decide +kernel
theorem dX11_owed_17 : decode cX11_owed 17 = .ok (.laload, 1) := by decide +kernel
theorem dX11_owed_18 : decode cX11_owed 18 = .ok (.goto 6, 3) := by decide +kernel
theorem dX11_owed_21 : decode cX11_owed 21 = .ok (.ldc2_w 268, 3) := by decide +kernel
theorem dX11_owed_24 : decode cX11_owed 24 = .ok (.lreturn, 1) := by decide +kernel
theorem dX11_lapses_0 : decode cX11_lapses 0 = .ok (.aload_n 0, 1) := by decide +kernel
theorem dX11_lapses_1 : decode cX11_lapses 1 = .ok (.invokevirtual 286, 3) := by decide +kernel
theorem dX11_lapses_4 : decode cX11_lapses 4 = .ok (.ifCond .eq 15, 3) := by decide +kernel
theorem dX11_lapses_7 : decode cX11_lapses 7 = .ok (.iload_n 1, 1) := by decide +kernel
theorem dX11_lapses_8 : decode cX11_lapses 8 = .ok (.i2l, 1) := by decide +kernel
theorem dX11_lapses_9 : decode cX11_lapses 9 = .ok (.lconst 1, 1) := by decide +kernel
theorem dX11_lapses_10 : decode cX11_lapses 10 = .ok (.ldc2_w 212, 3) := by decide +kernel
theorem dX11_lapses_13 : decode cX11_lapses 13 = .ok (.invokestatic 51, 3) := by decide +kernel
theorem dX11_lapses_16 : decode cX11_lapses 16 = .ok (.ifCond .ne 5, 3) := by decide +kernel
theorem dX11_lapses_19 : decode cX11_lapses 19 = .ok (.iconst (-1), 1) := by decide +kernel
theorem dX11_lapses_20 : decode cX11_lapses 20 = .ok (.ireturn, 1) := by decide +kernel
theorem dX11_lapses_21 : decode cX11_lapses 21 = .ok (.iconst 0, 1) := by decide +kernel
theorem dX11_lapses_22 : decode cX11_lapses 22 = .ok (.istore_n 2, 1) := by decide +kernel
theorem dX11_lapses_23 : decode cX11_lapses 23 = .ok (.iconst 0, 1) := by decide +kernel
theorem dX11_lapses_24 : decode cX11_lapses 24 = .ok (.istore_n 3, 1) := by decide +kernel
theorem dX11_lapses_25 : decode cX11_lapses 25 = .ok (.iload_n 3, 1) := by decide +kernel
theorem dX11_lapses_26 : decode cX11_lapses 26 = .ok (.aload_n 0, 1) := by decide +kernel
theorem dX11_lapses_27 : decode cX11_lapses 27 = .ok (.bipush 8, 2) := by decide +kernel
theorem dX11_lapses_29 : decode cX11_lapses 29 = .ok (.invokevirtual 164, 3) := by decide +kernel
theorem dX11_lapses_32 : decode cX11_lapses 32 = .ok (.if_icmp .ge 46, 3) := by decide +kernel
theorem dX11_lapses_35 : decode cX11_lapses 35 = .ok (.iload_n 2, 1) := by decide +kernel
theorem dX11_lapses_36 : decode cX11_lapses 36 = .ok (.aload_n 0, 1) := by decide +kernel
theorem dX11_lapses_37 : decode cX11_lapses 37 = .ok (.getfield 9, 3) := by decide +kernel
theorem dX11_lapses_40 : decode cX11_lapses 40 = .ok (.iload_n 3, 1) := by decide +kernel
theorem dX11_lapses_41 : decode cX11_lapses 41 = .ok (.bipush 6, 2) := by decide +kernel
theorem dX11_lapses_43 : decode cX11_lapses 43 = .ok (.invokestatic 48, 3) := by decide +kernel
theorem dX11_lapses_46 : decode cX11_lapses 46 = .ok (.laload, 1) := by decide +kernel
theorem dX11_lapses_47 : decode cX11_lapses 47 = .ok (.aload_n 0, 1) := by decide +kernel
theorem dX11_lapses_48 : decode cX11_lapses 48 = .ok (.getfield 9, 3) := by decide +kernel
theorem dX11_lapses_51 : decode cX11_lapses 51 = .ok (.bipush 9, 2) := by decide +kernel
theorem dX11_lapses_53 : decode cX11_lapses 53 = .ok (.laload, 1) := by decide +kernel
theorem dX11_lapses_54 : decode cX11_lapses 54 = .ok (.iload_n 1, 1) := by decide +kernel
theorem dX11_lapses_55 : decode cX11_lapses 55 = .ok (.i2l, 1) := by decide +kernel
theorem dX11_lapses_56 : decode cX11_lapses 56 = .ok (.ladd, 1) := by decide +kernel
theorem dX11_lapses_57 : decode cX11_lapses 57 = .ok (.lcmp, 1) := by decide +kernel
theorem dX11_lapses_58 : decode cX11_lapses 58 = .ok (.ifCond .ge 11, 3) := by decide +kernel
theorem dX11_lapses_61 : decode cX11_lapses 61 = .ok (.aload_n 0, 1) := by decide +kernel
theorem dX11_lapses_62 : decode cX11_lapses 62 = .ok (.iload_n 3, 1) := by decide +kernel
theorem dX11_lapses_63 : decode cX11_lapses 63 = .ok (.invokevirtual 214, 3) := by decide +kernel
theorem dX11_lapses_66 : decode cX11_lapses 66 = .ok (.goto 4, 3) := by decide +kernel
theorem dX11_lapses_69 : decode cX11_lapses 69 = .ok (.iconst 0, 1) := by decide +kernel
theorem dX11_lapses_70 : decode cX11_lapses 70 = .ok (.iadd, 1) := by decide +kernel
theorem dX11_lapses_71 : decode cX11_lapses 71 = .ok (.istore_n 2, 1) := by decide +kernel
theorem dX11_lapses_72 : decode cX11_lapses 72 = .ok (.iinc 3 1, 3) := by decide +kernel
theorem dX11_lapses_75 : decode cX11_lapses 75 = .ok (.goto (-50), 3) := by decide +kernel
theorem dX11_lapses_78 : decode cX11_lapses 78 = .ok (.iload_n 2, 1) := by decide +kernel
theorem dX11_lapses_79 : decode cX11_lapses 79 = .ok (.ireturn, 1) := by decide +kernel
theorem dX11_aheadOf_0 : decode cX11_aheadOf 0 = .ok (.iconst 0, 1) := by decide +kernel
theorem dX11_aheadOf_1 : decode cX11_aheadOf 1 = .ok (.istore_n 2, 1) := by decide +kernel
theorem dX11_aheadOf_2 : decode cX11_aheadOf 2 = .ok (.iconst 0, 1) := by decide +kernel
theorem dX11_aheadOf_3 : decode cX11_aheadOf 3 = .ok (.istore_n 3, 1) := by decide +kernel
theorem dX11_aheadOf_4 : decode cX11_aheadOf 4 = .ok (.iload_n 3, 1) := by decide +kernel
theorem dX11_aheadOf_5 : decode cX11_aheadOf 5 = .ok (.aload_n 0, 1) := by decide +kernel
theorem dX11_aheadOf_6 : decode cX11_aheadOf 6 = .ok (.bipush 8, 2) := by decide +kernel
theorem dX11_aheadOf_8 : decode cX11_aheadOf 8 = .ok (.invokevirtual 164, 3) := by decide +kernel
theorem dX11_aheadOf_11 : decode cX11_aheadOf 11 = .ok (.if_icmp .ge 65, 3) := by decide +kernel
theorem dX11_aheadOf_14 : decode cX11_aheadOf 14 = .ok (.aload_n 0, 1) := by decide +kernel
theorem dX11_aheadOf_15 : decode cX11_aheadOf 15 = .ok (.iload_n 3, 1) := by decide +kernel
theorem dX11_aheadOf_16 : decode cX11_aheadOf 16 = .ok (.bipush 6, 2) := by decide +kernel
theorem dX11_aheadOf_18 : decode cX11_aheadOf 18 = .ok (.invokevirtual 196, 3) := by decide +kernel
theorem dX11_aheadOf_21 : decode cX11_aheadOf 21 = .ok (.istore 4, 2) := by decide +kernel
theorem dX11_aheadOf_23 : decode cX11_aheadOf 23 = .ok (.aload_n 0, 1) := by decide +kernel
theorem dX11_aheadOf_24 : decode cX11_aheadOf 24 = .ok (.iload_n 1, 1) := by decide +kernel
theorem dX11_aheadOf_25 : decode cX11_aheadOf 25 = .ok (.bipush 6, 2) := by decide +kernel
theorem dX11_aheadOf_27 : decode cX11_aheadOf 27 = .ok (.invokevirtual 196, 3) := by decide +kernel
theorem dX11_aheadOf_30 : decode cX11_aheadOf 30 = .ok (.istore 5, 2) := by decide +kernel
theorem dX11_aheadOf_32 : decode cX11_aheadOf 32 = .ok (.iload_n 2, 1) := by decide +kernel
theorem dX11_aheadOf_33 : decode cX11_aheadOf 33 = .ok (.aload_n 0, 1) := by decide +kernel
theorem dX11_aheadOf_34 : decode cX11_aheadOf 34 = .ok (.iload_n 3, 1) := by decide +kernel
theorem dX11_aheadOf_35 : decode cX11_aheadOf 35 = .ok (.invokevirtual 199, 3) := by decide +kernel
theorem dX11_aheadOf_38 : decode cX11_aheadOf 38 = .ok (.ifCond .eq 26, 3) := by decide +kernel
theorem dX11_aheadOf_41 : decode cX11_aheadOf 41 = .ok (.iload 4, 2) := by decide +kernel
theorem dX11_aheadOf_43 : decode cX11_aheadOf 43 = .ok (.iload 5, 2) := by decide +kernel
theorem dX11_aheadOf_45 : decode cX11_aheadOf 45 = .ok (.if_icmp .lt 15, 3) := by decide +kernel
theorem dX11_aheadOf_48 : decode cX11_aheadOf 48 = .ok (.iload 4, 2) := by decide +kernel
theorem dX11_aheadOf_50 : decode cX11_aheadOf 50 = .ok (.iload 5, 2) := by decide +kernel
theorem dX11_aheadOf_52 : decode cX11_aheadOf 52 = .ok (.if_icmp .ne 12, 3) := by decide +kernel
theorem dX11_aheadOf_55 : decode cX11_aheadOf 55 = .ok (.iload_n 3, 1) := by decide +kernel
theorem dX11_aheadOf_56 : decode cX11_aheadOf 56 = .ok (.iload_n 1, 1) := by decide +kernel
theorem dX11_aheadOf_57 : decode cX11_aheadOf 57 = .ok (.if_icmp .ge 7, 3) := by decide +kernel
theorem dX11_aheadOf_60 : decode cX11_aheadOf 60 = .ok (.iconst 1, 1) := by decide +kernel
theorem dX11_aheadOf_61 : decode cX11_aheadOf 61 = .ok (.goto 4, 3) := by decide +kernel
theorem dX11_aheadOf_64 : decode cX11_aheadOf 64 = .ok (.iconst 0, 1) := by decide +kernel
theorem dX11_aheadOf_65 : decode cX11_aheadOf 65 = .ok (.invokestatic 122, 3) := by decide +kernel
theorem dX11_aheadOf_68 : decode cX11_aheadOf 68 = .ok (.iadd, 1) := by decide +kernel
theorem dX11_aheadOf_69 : decode cX11_aheadOf 69 = .ok (.istore_n 2, 1) := by decide +kernel
theorem dX11_aheadOf_70 : decode cX11_aheadOf 70 = .ok (.iinc 3 1, 3) := by decide +kernel
theorem dX11_aheadOf_73 : decode cX11_aheadOf 73 = .ok (.goto (-69), 3) := by decide +kernel
theorem dX11_aheadOf_76 : decode cX11_aheadOf 76 = .ok (.iload_n 2, 1) := by decide +kernel
theorem dX11_aheadOf_77 : decode cX11_aheadOf 77 = .ok (.ireturn, 1) := by decide +kernel
theorem dX11_openMany_0 : decode cX11_openMany 0 = .ok (.iconst 0, 1) := by decide +kernel
theorem dX11_openMany_1 : decode cX11_openMany 1 = .ok (.istore_n 1, 1) := by decide +kernel
theorem dX11_openMany_2 : decode cX11_openMany 2 = .ok (.iconst 0, 1) := by decide +kernel
theorem dX11_openMany_3 : decode cX11_openMany 3 = .ok (.istore_n 2, 1) := by decide +kernel
theorem dX11_openMany_4 : decode cX11_openMany 4 = .ok (.iload_n 2, 1) := by decide +kernel
theorem dX11_openMany_5 : decode cX11_openMany 5 = .ok (.aload_n 0, 1) := by decide +kernel
theorem dX11_openMany_6 : decode cX11_openMany 6 = .ok (.bipush 8, 2) := by decide +kernel
theorem dX11_openMany_8 : decode cX11_openMany 8 = .ok (.invokevirtual 164, 3) := by decide +kernel
theorem dX11_openMany_11 : decode cX11_openMany 11 = .ok (.if_icmp .ge 20, 3) := by decide +kernel
theorem dX11_openMany_14 : decode cX11_openMany 14 = .ok (.iload_n 1, 1) := by decide +kernel
theorem dX11_openMany_15 : decode cX11_openMany 15 = .ok (.aload_n 0, 1) := by decide +kernel
theorem dX11_openMany_16 : decode cX11_openMany 16 = .ok (.iload_n 2, 1) := by decide +kernel
theorem dX11_openMany_17 : decode cX11_openMany 17 = .ok (.invokevirtual 199, 3) := by decide +kernel
theorem dX11_openMany_20 : decode cX11_openMany 20 = .ok (.invokestatic 122, 3) := by decide +kernel
theorem dX11_openMany_23 : decode cX11_openMany 23 = .ok (.iadd, 1) := by decide +kernel
theorem dX11_openMany_24 : decode cX11_openMany 24 = .ok (.istore_n 1, 1) := by decide +kernel
theorem dX11_openMany_25 : decode cX11_openMany 25 = .ok (.iinc 2 1, 3) := by decide +kernel
theorem dX11_openMany_28 : decode cX11_openMany 28 = .ok (.goto (-24), 3) := by decide +kernel
theorem dX11_openMany_31 : decode cX11_openMany 31 = .ok (.iload_n 1, 1) := by decide +kernel
theorem dX11_openMany_32 : decode cX11_openMany 32 = .ok (.ireturn, 1) := by decide +kernel
theorem dX11_next__0 : decode cX11_next_ 0 = .ok (.iload_n 1, 1) := by decide +kernel
theorem dX11_next__1 : decode cX11_next_ 1 = .ok (.iconst (-1), 1) := by decide +kernel
theorem dX11_next__2 : decode cX11_next_ 2 = .ok (.if_icmp .ge 5, 3) := by decide +kernel
theorem dX11_next__5 : decode cX11_next_ 5 = .ok (.iconst (-1), 1) := by decide +kernel
theorem dX11_next__6 : decode cX11_next_ 6 = .ok (.ireturn, 1) := by decide +kernel
theorem dX11_next__7 : decode cX11_next_ 7 = .ok (.iconst 0, 1) := by decide +kernel
theorem dX11_next__8 : decode cX11_next_ 8 = .ok (.istore_n 2, 1) := by decide +kernel
theorem dX11_next__9 : decode cX11_next_ 9 = .ok (.iload_n 2, 1) := by decide +kernel
theorem dX11_next__10 : decode cX11_next_ 10 = .ok (.aload_n 0, 1) := by decide +kernel
theorem dX11_next__11 : decode cX11_next_ 11 = .ok (.bipush 8, 2) := by decide +kernel
theorem dX11_next__13 : decode cX11_next_ 13 = .ok (.invokevirtual 164, 3) := by decide +kernel
theorem dX11_next__16 : decode cX11_next_ 16 = .ok (.if_icmp .ge 28, 3) := by decide +kernel
theorem dX11_next__19 : decode cX11_next_ 19 = .ok (.aload_n 0, 1) := by decide +kernel
theorem dX11_next__20 : decode cX11_next_ 20 = .ok (.iload_n 2, 1) := by decide +kernel
theorem dX11_next__21 : decode cX11_next_ 21 = .ok (.invokevirtual 199, 3) := by decide +kernel
theorem dX11_next__24 : decode cX11_next_ 24 = .ok (.ifCond .eq 14, 3) := by decide +kernel
theorem dX11_next__27 : decode cX11_next_ 27 = .ok (.aload_n 0, 1) := by decide +kernel
theorem dX11_next__28 : decode cX11_next_ 28 = .ok (.iload_n 2, 1) := by decide +kernel
theorem dX11_next__29 : decode cX11_next_ 29 = .ok (.invokevirtual 312, 3) := by decide +kernel
theorem dX11_next__32 : decode cX11_next_ 32 = .ok (.iload_n 1, 1) := by decide +kernel
theorem dX11_next__33 : decode cX11_next_ 33 = .ok (.if_icmp .ne 5, 3) := by decide +kernel
theorem dX11_next__36 : decode cX11_next_ 36 = .ok (.iload_n 2, 1) := by decide +kernel
theorem dX11_next__37 : decode cX11_next_ 37 = .ok (.ireturn, 1) := by decide +kernel
theorem dX11_next__38 : decode cX11_next_ 38 = .ok (.iinc 2 1, 3) := by decide +kernel
theorem dX11_next__41 : decode cX11_next_ 41 = .ok (.goto (-32), 3) := by decide +kernel
theorem dX11_next__44 : decode cX11_next_ 44 = .ok (.iload_n 1, 1) := by decide +kernel
theorem dX11_next__45 : decode cX11_next_ 45 = .ok (.iconst (-1), 1) := by decide +kernel
theorem dX11_next__46 : decode cX11_next_ 46 = .ok (.if_icmp .ne 10, 3) := by decide +kernel
theorem dX11_next__49 : decode cX11_next_ 49 = .ok (.aload_n 0, 1) := by decide +kernel
theorem dX11_next__50 : decode cX11_next_ 50 = .ok (.invokevirtual 315, 3) := by decide +kernel
theorem dX11_next__53 : decode cX11_next_ 53 = .ok (.goto 5, 3) := by decide +kernel
theorem dX11_next__56 : decode cX11_next_ 56 = .ok (.bipush (-2), 2) := by decide +kernel
theorem dX11_next__58 : decode cX11_next_ 58 = .ok (.ireturn, 1) := by decide +kernel
theorem dX11_best_0 : decode cX11_best 0 = .ok (.aload_n 0, 1) := by decide +kernel
theorem dX11_best_1 : decode cX11_best 1 = .ok (.iload_n 1, 1) := by decide +kernel
theorem dX11_best_2 : decode cX11_best 2 = .ok (.invokevirtual 55, 3) := by decide +kernel
theorem dX11_best_5 : decode cX11_best 5 = .ok (.ifCond .eq 20, 3) := by decide +kernel
theorem dX11_best_8 : decode cX11_best 8 = .ok (.iload_n 2, 1) := by decide +kernel
theorem dX11_best_9 : decode cX11_best 9 = .ok (.invokestatic 239, 3) := by decide +kernel
theorem dX11_best_12 : decode cX11_best 12 = .ok (.ifCond .eq 13, 3) := by decide +kernel
theorem dX11_best_15 : decode cX11_best 15 = .ok (.iload_n 3, 1) := by decide +kernel
theorem dX11_best_16 : decode cX11_best 16 = .ok (.i2l, 1) := by decide +kernel
theorem dX11_best_17 : decode cX11_best 17 = .ok (.lconst 0, 1) := by decide +kernel
theorem dX11_best_18 : decode cX11_best 18 = .ok (.lconst 1, 1) := by decide +kernel
theorem dX11_best_19 : decode cX11_best 19 = .ok (.invokestatic 51, 3) := by decide +kernel
theorem dX11_best_22 : decode cX11_best 22 = .ok (.ifCond .ne 5, 3) := by decide +kernel
theorem dX11_best_25 : decode cX11_best 25 = .ok (.iconst (-1), 1) := by decide +kernel
theorem dX11_best_26 : decode cX11_best 26 = .ok (.ireturn, 1) := by decide +kernel
theorem dX11_best_27 : decode cX11_best 27 = .ok (.bipush (-2), 2) := by decide +kernel
theorem dX11_best_29 : decode cX11_best 29 = .ok (.istore 4, 2) := by decide +kernel
theorem dX11_best_31 : decode cX11_best 31 = .ok (.iconst 0, 1) := by decide +kernel
theorem dX11_best_32 : decode cX11_best 32 = .ok (.istore 5, 2) := by decide +kernel
theorem dX11_best_34 : decode cX11_best 34 = .ok (.iconst 0, 1) := by decide +kernel
theorem dX11_best_35 : decode cX11_best 35 = .ok (.istore 6, 2) := by decide +kernel
theorem dX11_best_37 : decode cX11_best 37 = .ok (.iload 6, 2) := by decide +kernel
theorem dX11_best_39 : decode cX11_best 39 = .ok (.aload_n 0, 1) := by decide +kernel
theorem dX11_best_40 : decode cX11_best 40 = .ok (.bipush 6, 2) := by decide +kernel
theorem dX11_best_42 : decode cX11_best 42 = .ok (.invokevirtual 164, 3) := by decide +kernel
theorem dX11_best_45 : decode cX11_best 45 = .ok (.if_icmp .ge 34, 3) := by decide +kernel
theorem dX11_best_48 : decode cX11_best 48 = .ok (.aload_n 0, 1) := by decide +kernel
theorem dX11_best_49 : decode cX11_best 49 = .ok (.iload_n 1, 1) := by decide +kernel
theorem dX11_best_50 : decode cX11_best 50 = .ok (.iload 6, 2) := by decide +kernel
theorem dX11_best_52 : decode cX11_best 52 = .ok (.iload_n 2, 1) := by decide +kernel
theorem dX11_best_53 : decode cX11_best 53 = .ok (.invokevirtual 229, 3) := by decide +kernel
theorem dX11_best_56 : decode cX11_best 56 = .ok (.istore 7, 2) := by decide +kernel
theorem dX11_best_58 : decode cX11_best 58 = .ok (.iload 7, 2) := by decide +kernel
theorem dX11_best_60 : decode cX11_best 60 = .ok (.iload 5, 2) := by decide +kernel
theorem dX11_best_62 : decode cX11_best 62 = .ok (.if_icmp .le 11, 3) := by decide +kernel
theorem dX11_best_65 : decode cX11_best 65 = .ok (.iload 7, 2) := by decide +kernel
theorem dX11_best_67 : decode cX11_best 67 = .ok (.istore 5, 2) := by decide +kernel
theorem dX11_best_69 : decode cX11_best 69 = .ok (.iload 6, 2) := by decide +kernel
theorem dX11_best_71 : decode cX11_best 71 = .ok (.istore 4, 2) := by decide +kernel
theorem dX11_best_73 : decode cX11_best 73 = .ok (.iinc 6 1, 3) := by decide +kernel
theorem dX11_best_76 : decode cX11_best 76 = .ok (.goto (-39), 3) := by decide +kernel
theorem dX11_best_79 : decode cX11_best 79 = .ok (.iload 4, 2) := by decide +kernel
theorem dX11_best_81 : decode cX11_best 81 = .ok (.bipush (-2), 2) := by decide +kernel
theorem dX11_best_83 : decode cX11_best 83 = .ok (.if_icmp .eq 7, 3) := by decide +kernel
theorem dX11_best_86 : decode cX11_best 86 = .ok (.iload_n 3, 1) := by decide +kernel
theorem dX11_best_87 : decode cX11_best 87 = .ok (.ifCond .ne 8, 3) := by decide +kernel
theorem dX11_best_90 : decode cX11_best 90 = .ok (.iload 4, 2) := by decide +kernel
theorem dX11_best_92 : decode cX11_best 92 = .ok (.goto 5, 3) := by decide +kernel
theorem dX11_best_95 : decode cX11_best 95 = .ok (.iload 5, 2) := by decide +kernel
theorem dX11_best_97 : decode cX11_best 97 = .ok (.ireturn, 1) := by decide +kernel
theorem dX11_yearOf_0 : decode cX11_yearOf 0 = .ok (.lconst 0, 1) := by decide +kernel
theorem dX11_yearOf_1 : decode cX11_yearOf 1 = .ok (.lstore_n 2, 1) := by decide +kernel
theorem dX11_yearOf_2 : decode cX11_yearOf 2 = .ok (.iconst 0, 1) := by decide +kernel
theorem dX11_yearOf_3 : decode cX11_yearOf 3 = .ok (.istore 4, 2) := by decide +kernel
theorem dX11_yearOf_5 : decode cX11_yearOf 5 = .ok (.iload 4, 2) := by decide +kernel
theorem dX11_yearOf_7 : decode cX11_yearOf 7 = .ok (.bipush 12, 2) := by decide +kernel
theorem dX11_yearOf_9 : decode cX11_yearOf 9 = .ok (.if_icmp .ge 28, 3) := by decide +kernel
theorem dX11_yearOf_12 : decode cX11_yearOf 12 = .ok (.lload_n 2, 1) := by decide +kernel
theorem dX11_yearOf_13 : decode cX11_yearOf 13 = .ok (.aload_n 0, 1) := by decide +kernel
theorem dX11_yearOf_14 : decode cX11_yearOf 14 = .ok (.getfield 9, 3) := by decide +kernel
theorem dX11_yearOf_17 : decode cX11_yearOf 17 = .ok (.sipush 312, 3) := by decide +kernel
theorem dX11_yearOf_20 : decode cX11_yearOf 20 = .ok (.bipush 12, 2) := by decide +kernel
theorem dX11_yearOf_22 : decode cX11_yearOf 22 = .ok (.iload_n 1, 1) := by decide +kernel
theorem dX11_yearOf_23 : decode cX11_yearOf 23 = .ok (.imul, 1) := by decide +kernel
theorem dX11_yearOf_24 : decode cX11_yearOf 24 = .ok (.iadd, 1) := by decide +kernel
theorem dX11_yearOf_25 : decode cX11_yearOf 25 = .ok (.iload 4, 2) := by decide +kernel
theorem dX11_yearOf_27 : decode cX11_yearOf 27 = .ok (.iadd, 1) := by decide +kernel
theorem dX11_yearOf_28 : decode cX11_yearOf 28 = .ok (.laload, 1) := by decide +kernel
theorem dX11_yearOf_29 : decode cX11_yearOf 29 = .ok (.ladd, 1) := by decide +kernel
theorem dX11_yearOf_30 : decode cX11_yearOf 30 = .ok (.lstore_n 2, 1) := by decide +kernel
theorem dX11_yearOf_31 : decode cX11_yearOf 31 = .ok (.iinc 4 1, 3) := by decide +kernel
theorem dX11_yearOf_34 : decode cX11_yearOf 34 = .ok (.goto (-29), 3) := by decide +kernel
theorem dX11_yearOf_37 : decode cX11_yearOf 37 = .ok (.lload_n 2, 1) := by decide +kernel
theorem dX11_yearOf_38 : decode cX11_yearOf 38 = .ok (.lreturn, 1) := by decide +kernel
theorem dX11_order_0 : decode cX11_order 0 = .ok (.iconst 0, 1) := by decide +kernel
theorem dX11_order_1 : decode cX11_order 1 = .ok (.istore_n 2, 1) := by decide +kernel
theorem dX11_order_2 : decode cX11_order 2 = .ok (.iload_n 2, 1) := by decide +kernel
theorem dX11_order_3 : decode cX11_order 3 = .ok (.aload_n 0, 1) := by decide +kernel
theorem dX11_order_4 : decode cX11_order 4 = .ok (.bipush 7, 2) := by decide +kernel
theorem dX11_order_6 : decode cX11_order 6 = .ok (.invokevirtual 164, 3) := by decide +kernel
theorem dX11_order_9 : decode cX11_order 9 = .ok (.if_icmp .ge 85, 3) := by decide +kernel
theorem dX11_order_12 : decode cX11_order 12 = .ok (.iconst 0, 1) := by decide +kernel
theorem dX11_order_13 : decode cX11_order 13 = .ok (.istore_n 3, 1) := by decide +kernel
theorem dX11_order_14 : decode cX11_order 14 = .ok (.iconst 0, 1) := by decide +kernel
theorem dX11_order_15 : decode cX11_order 15 = .ok (.istore 4, 2) := by decide +kernel
theorem dX11_order_17 : decode cX11_order 17 = .ok (.iload 4, 2) := by decide +kernel
theorem dX11_order_19 : decode cX11_order 19 = .ok (.aload_n 0, 1) := by decide +kernel
theorem dX11_order_20 : decode cX11_order 20 = .ok (.bipush 7, 2) := by decide +kernel
theorem dX11_order_22 : decode cX11_order 22 = .ok (.invokevirtual 164, 3) := by decide +kernel
theorem dX11_order_25 : decode cX11_order 25 = .ok (.if_icmp .ge 56, 3) := by decide +kernel
theorem dX11_order_28 : decode cX11_order 28 = .ok (.iload_n 3, 1) := by decide +kernel
theorem dX11_order_29 : decode cX11_order 29 = .ok (.aload_n 0, 1) := by decide +kernel
theorem dX11_order_30 : decode cX11_order 30 = .ok (.iload 4, 2) := by decide +kernel
theorem dX11_order_32 : decode cX11_order 32 = .ok (.invokevirtual 318, 3) := by decide +kernel
theorem dX11_order_35 : decode cX11_order 35 = .ok (.aload_n 0, 1) := by decide +kernel
theorem dX11_order_36 : decode cX11_order 36 = .ok (.iload_n 2, 1) := by decide +kernel
theorem dX11_order_37 : decode cX11_order 37 = .ok (.invokevirtual 318, 3) := by decide +kernel
theorem dX11_order_40 : decode cX11_order 40 = .ok (.lcmp, 1) := by decide +kernel
theorem dX11_order_41 : decode cX11_order 41 = .ok (.ifCond .gt 24, 3) := by decide +kernel
theorem dX11_order_44 : decode cX11_order 44 = .ok (.aload_n 0, 1) := by decide +kernel
theorem dX11_order_45 : decode cX11_order 45 = .ok (.iload 4, 2) := by decide +kernel
theorem dX11_order_47 : decode cX11_order 47 = .ok (.invokevirtual 318, 3) := by decide +kernel
theorem dX11_order_50 : decode cX11_order 50 = .ok (.aload_n 0, 1) := by decide +kernel
theorem dX11_order_51 : decode cX11_order 51 = .ok (.iload_n 2, 1) := by decide +kernel
theorem dX11_order_52 : decode cX11_order 52 = .ok (.invokevirtual 318, 3) := by decide +kernel
theorem dX11_order_55 : decode cX11_order 55 = .ok (.lcmp, 1) := by decide +kernel
theorem dX11_order_56 : decode cX11_order 56 = .ok (.ifCond .ne 13, 3) := by decide +kernel
theorem dX11_order_59 : decode cX11_order 59 = .ok (.iload 4, 2) := by decide +kernel
theorem dX11_order_61 : decode cX11_order 61 = .ok (.iload_n 2, 1) := by decide +kernel
theorem dX11_order_62 : decode cX11_order 62 = .ok (.if_icmp .ge 7, 3) := by decide +kernel
theorem dX11_order_65 : decode cX11_order 65 = .ok (.iconst 1, 1) := by decide +kernel
theorem dX11_order_66 : decode cX11_order 66 = .ok (.goto 4, 3) := by decide +kernel
theorem dX11_order_69 : decode cX11_order 69 = .ok (.iconst 0, 1) := by decide +kernel
theorem dX11_order_70 : decode cX11_order 70 = .ok (.invokestatic 122, 3) := by decide +kernel
theorem dX11_order_73 : decode cX11_order 73 = .ok (.iadd, 1) := by decide +kernel
theorem dX11_order_74 : decode cX11_order 74 = .ok (.istore_n 3, 1) := by decide +kernel
theorem dX11_order_75 : decode cX11_order 75 = .ok (.iinc 4 1, 3) := by decide +kernel
theorem dX11_order_78 : decode cX11_order 78 = .ok (.goto (-61), 3) := by decide +kernel
theorem dX11_order_81 : decode cX11_order 81 = .ok (.iload_n 3, 1) := by decide +kernel
theorem dX11_order_82 : decode cX11_order 82 = .ok (.iload_n 1, 1) := by decide +kernel
theorem dX11_order_83 : decode cX11_order 83 = .ok (.if_icmp .ne 5, 3) := by decide +kernel
theorem dX11_order_86 : decode cX11_order 86 = .ok (.iload_n 2, 1) := by decide +kernel
theorem dX11_order_87 : decode cX11_order 87 = .ok (.ireturn, 1) := by decide +kernel
theorem dX11_order_88 : decode cX11_order 88 = .ok (.iinc 2 1, 3) := by decide +kernel
theorem dX11_order_91 : decode cX11_order 91 = .ok (.goto (-89), 3) := by decide +kernel
theorem dX11_order_94 : decode cX11_order 94 = .ok (.iconst (-1), 1) := by decide +kernel
theorem dX11_order_95 : decode cX11_order 95 = .ok (.ireturn, 1) := by decide +kernel
theorem dX11_focus_0 : decode cX11_focus 0 = .ok (.aload_n 0, 1) := by decide +kernel
theorem dX11_focus_1 : decode cX11_focus 1 = .ok (.iload_n 1, 1) := by decide +kernel
theorem dX11_focus_2 : decode cX11_focus 2 = .ok (.invokevirtual 59, 3) := by decide +kernel
theorem dX11_focus_5 : decode cX11_focus 5 = .ok (.ifCond .ne 7, 3) := by decide +kernel
theorem dX11_focus_8 : decode cX11_focus 8 = .ok (.ldc2_w 268, 3) := by decide +kernel
theorem dX11_focus_11 : decode cX11_focus 11 = .ok (.lreturn, 1) := by decide +kernel
theorem dX11_focus_12 : decode cX11_focus 12 = .ok (.dconst 0, 1) := by decide +kernel
theorem dX11_focus_13 : decode cX11_focus 13 = .ok (.dstore_n 2, 1) := by decide +kernel
theorem dX11_focus_14 : decode cX11_focus 14 = .ok (.iconst 0, 1) := by decide +kernel
theorem dX11_focus_15 : decode cX11_focus 15 = .ok (.istore 4, 2) := by decide +kernel
theorem dX11_focus_17 : decode cX11_focus 17 = .ok (.iload 4, 2) := by decide +kernel
theorem dX11_focus_19 : decode cX11_focus 19 = .ok (.aload_n 0, 1) := by decide +kernel
theorem dX11_focus_20 : decode cX11_focus 20 = .ok (.bipush 7, 2) := by decide +kernel
theorem dX11_focus_22 : decode cX11_focus 22 = .ok (.invokevirtual 164, 3) := by decide +kernel
theorem dX11_focus_25 : decode cX11_focus 25 = .ok (.if_icmp .ge 46, 3) := by decide +kernel
theorem dX11_focus_28 : decode cX11_focus 28 = .ok (.aload_n 0, 1) := by decide +kernel
theorem dX11_focus_29 : decode cX11_focus 29 = .ok (.iload_n 1, 1) := by decide +kernel
theorem dX11_focus_30 : decode cX11_focus 30 = .ok (.iconst 4, 1) := by decide +kernel
theorem dX11_focus_31 : decode cX11_focus 31 = .ok (.invokevirtual 226, 3) := by decide +kernel
theorem dX11_focus_34 : decode cX11_focus 34 = .ok (.ifCond .le 37, 3) := by decide +kernel
theorem dX11_focus_37 : decode cX11_focus 37 = .ok (.aload_n 0, 1) := by decide +kernel
theorem dX11_focus_38 : decode cX11_focus 38 = .ok (.iload 4, 2) := by decide +kernel
theorem dX11_focus_40 : decode cX11_focus 40 = .ok (.iload_n 1, 1) := by decide +kernel
theorem dX11_focus_41 : decode cX11_focus 41 = .ok (.bipush 7, 2) := by decide +kernel
theorem dX11_focus_43 : decode cX11_focus 43 = .ok (.invokevirtual 167, 3) := by decide +kernel
theorem dX11_focus_46 : decode cX11_focus 46 = .ok (.i2d, 1) := by decide +kernel
theorem dX11_focus_47 : decode cX11_focus 47 = .ok (.aload_n 0, 1) := by decide +kernel
theorem dX11_focus_48 : decode cX11_focus 48 = .ok (.iload_n 1, 1) := by decide +kernel
theorem dX11_focus_49 : decode cX11_focus 49 = .ok (.iconst 4, 1) := by decide +kernel
theorem dX11_focus_50 : decode cX11_focus 50 = .ok (.invokevirtual 226, 3) := by decide +kernel
theorem dX11_focus_53 : decode cX11_focus 53 = .ok (.i2d, 1) := by decide +kernel
theorem dX11_focus_54 : decode cX11_focus 54 = .ok (.ddiv, 1) := by decide +kernel
theorem dX11_focus_55 : decode cX11_focus 55 = .ok (.dstore 5, 2) := by decide +kernel
theorem dX11_focus_57 : decode cX11_focus 57 = .ok (.dload_n 2, 1) := by decide +kernel
theorem dX11_focus_58 : decode cX11_focus 58 = .ok (.dload 5, 2) := by decide +kernel
theorem dX11_focus_60 : decode cX11_focus 60 = .ok (.dload 5, 2) := by decide +kernel
theorem dX11_focus_62 : decode cX11_focus 62 = .ok (.dmul, 1) := by decide +kernel
theorem dX11_focus_63 : decode cX11_focus 63 = .ok (.dadd, 1) := by decide +kernel
theorem dX11_focus_64 : decode cX11_focus 64 = .ok (.dstore_n 2, 1) := by decide +kernel
theorem dX11_focus_65 : decode cX11_focus 65 = .ok (.iinc 4 1, 3) := by decide +kernel
theorem dX11_focus_68 : decode cX11_focus 68 = .ok (.goto (-51), 3) := by decide +kernel
theorem dX11_focus_71 : decode cX11_focus 71 = .ok (.dload_n 2, 1) := by decide +kernel
theorem dX11_focus_72 : decode cX11_focus 72 = .ok (.invokestatic 276, 3) := by decide +kernel
theorem dX11_focus_75 : decode cX11_focus 75 = .ok (.lreturn, 1) := by decide +kernel
theorem dX11_carry_0 : decode cX11_carry 0 = .ok (.aload_n 0, 1) := by decide +kernel
theorem dX11_carry_1 : decode cX11_carry 1 = .ok (.iload_n 1, 1) := by decide +kernel
theorem dX11_carry_2 : decode cX11_carry 2 = .ok (.invokevirtual 59, 3) := by decide +kernel
theorem dX11_carry_5 : decode cX11_carry 5 = .ok (.ifCond .ne 5, 3) := by decide +kernel
theorem dX11_carry_8 : decode cX11_carry 8 = .ok (.iconst (-1), 1) := by decide +kernel
theorem dX11_carry_9 : decode cX11_carry 9 = .ok (.ireturn, 1) := by decide +kernel
theorem dX11_carry_10 : decode cX11_carry 10 = .ok (.aload_n 0, 1) := by decide +kernel
theorem dX11_carry_11 : decode cX11_carry 11 = .ok (.getfield 9, 3) := by decide +kernel
theorem dX11_carry_14 : decode cX11_carry 14 = .ok (.bipush 9, 2) := by decide +kernel
theorem dX11_carry_16 : decode cX11_carry 16 = .ok (.laload, 1) := by decide +kernel
theorem dX11_carry_17 : decode cX11_carry 17 = .ok (.ldc2_w 180, 3) := by decide +kernel
theorem dX11_carry_20 : decode cX11_carry 20 = .ok (.lrem, 1) := by decide +kernel
theorem dX11_carry_21 : decode cX11_carry 21 = .ok (.ldc2_w 321, 3) := by decide +kernel
theorem dX11_carry_24 : decode cX11_carry 24 = .ok (.lcmp, 1) := by decide +kernel
theorem dX11_carry_25 : decode cX11_carry 25 = .ok (.ifCond .lt 7, 3) := by decide +kernel
theorem dX11_carry_28 : decode cX11_carry 28 = .ok (.iconst 0, 1) := by decide +kernel
theorem dX11_carry_29 : decode cX11_carry 29 = .ok (.goto 9, 3) := by decide +kernel
theorem dX11_carry_32 : decode cX11_carry 32 = .ok (.aload_n 0, 1) := by decide +kernel
theorem dX11_carry_33 : decode cX11_carry 33 = .ok (.iload_n 1, 1) := by decide +kernel
theorem dX11_carry_34 : decode cX11_carry 34 = .ok (.invokevirtual 182, 3) := by decide +kernel
theorem dX11_carry_37 : decode cX11_carry 37 = .ok (.l2i, 1) := by decide +kernel
theorem dX11_carry_38 : decode cX11_carry 38 = .ok (.ireturn, 1) := by decide +kernel
theorem dX11_window_0 : decode cX11_window 0 = .ok (.aload_n 0, 1) := by decide +kernel
theorem dX11_window_1 : decode cX11_window 1 = .ok (.invokevirtual 286, 3) := by decide +kernel
theorem dX11_window_4 : decode cX11_window 4 = .ok (.ifCond .ne 5, 3) := by decide +kernel
theorem dX11_window_7 : decode cX11_window 7 = .ok (.iconst (-1), 1) := by decide +kernel
theorem dX11_window_8 : decode cX11_window 8 = .ok (.ireturn, 1) := by decide +kernel
theorem dX11_window_9 : decode cX11_window 9 = .ok (.iconst 1, 1) := by decide +kernel
theorem dX11_window_10 : decode cX11_window 10 = .ok (.istore_n 1, 1) := by decide +kernel
theorem dX11_window_11 : decode cX11_window 11 = .ok (.iconst 0, 1) := by decide +kernel
theorem dX11_window_12 : decode cX11_window 12 = .ok (.istore_n 2, 1) := by decide +kernel
theorem dX11_window_13 : decode cX11_window 13 = .ok (.iload_n 2, 1) := by decide +kernel
theorem dX11_window_14 : decode cX11_window 14 = .ok (.aload_n 0, 1) := by decide +kernel
theorem dX11_window_15 : decode cX11_window 15 = .ok (.bipush 6, 2) := by decide +kernel
theorem dX11_window_17 : decode cX11_window 17 = .ok (.invokevirtual 164, 3) := by decide +kernel
theorem dX11_window_20 : decode cX11_window 20 = .ok (.if_icmp .ge 114, 3) := by decide +kernel
theorem dX11_window_23 : decode cX11_window 23 = .ok (.lconst 0, 1) := by decide +kernel
theorem dX11_window_24 : decode cX11_window 24 = .ok (.lstore_n 3, 1) := by decide +kernel
theorem dX11_window_25 : decode cX11_window 25 = .ok (.iconst 0, 1) := by decide +kernel
theorem dX11_window_26 : decode cX11_window 26 = .ok (.istore 5, 2) := by decide +kernel
theorem dX11_window_28 : decode cX11_window 28 = .ok (.iload 5, 2) := by decide +kernel
theorem dX11_window_30 : decode cX11_window 30 = .ok (.aload_n 0, 1) := by decide +kernel
theorem dX11_window_31 : decode cX11_window 31 = .ok (.bipush 8, 2) := by decide +kernel
theorem dX11_window_33 : decode cX11_window 33 = .ok (.invokevirtual 164, 3) := by decide +kernel
theorem dX11_window_36 : decode cX11_window 36 = .ok (.if_icmp .ge 53, 3) := by decide +kernel
theorem dX11_window_39 : decode cX11_window 39 = .ok (.aload_n 0, 1) := by decide +kernel
theorem dX11_window_40 : decode cX11_window 40 = .ok (.iload 5, 2) := by decide +kernel
theorem dX11_window_42 : decode cX11_window 42 = .ok (.iconst 1, 1) := by decide +kernel
theorem dX11_window_43 : decode cX11_window 43 = .ok (.invokevirtual 196, 3) := by decide +kernel
theorem dX11_window_46 : decode cX11_window 46 = .ok (.iload_n 2, 1) := by decide +kernel
theorem dX11_window_47 : decode cX11_window 47 = .ok (.if_icmp .ne 36, 3) := by decide +kernel
theorem dX11_window_50 : decode cX11_window 50 = .ok (.aload_n 0, 1) := by decide +kernel
theorem dX11_window_51 : decode cX11_window 51 = .ok (.iload 5, 2) := by decide +kernel
theorem dX11_window_53 : decode cX11_window 53 = .ok (.invokevirtual 217, 3) := by decide +kernel
theorem dX11_window_56 : decode cX11_window 56 = .ok (.ifCond .eq 27, 3) := by decide +kernel
theorem dX11_window_59 : decode cX11_window 59 = .ok (.lload_n 3, 1) := by decide +kernel
theorem dX11_window_60 : decode cX11_window 60 = .ok (.aload_n 0, 1) := by decide +kernel
theorem dX11_window_61 : decode cX11_window 61 = .ok (.iload 5, 2) := by decide +kernel
theorem dX11_window_63 : decode cX11_window 63 = .ok (.aload_n 0, 1) := by decide +kernel
theorem dX11_window_64 : decode cX11_window 64 = .ok (.iload 5, 2) := by decide +kernel
theorem dX11_window_66 : decode cX11_window 66 = .ok (.invokevirtual 199, 3) := by decide +kernel
theorem dX11_window_69 : decode cX11_window 69 = .ok (.ifCond .eq 7, 3) := by decide +kernel
theorem dX11_window_72 : decode cX11_window 72 = .ok (.iconst 2, 1) := by decide +kernel
theorem dX11_window_73 : decode cX11_window 73 = .ok (.goto 4, 3) := by decide +kernel
theorem dX11_window_76 : decode cX11_window 76 = .ok (.iconst 4, 1) := by decide +kernel
theorem dX11_window_77 : decode cX11_window 77 = .ok (.invokevirtual 196, 3) := by decide +kernel
theorem dX11_window_80 : decode cX11_window 80 = .ok (.i2l, 1) := by decide +kernel
theorem dX11_window_81 : decode cX11_window 81 = .ok (.ladd, 1) := by decide +kernel
theorem dX11_window_82 : decode cX11_window 82 = .ok (.lstore_n 3, 1) := by decide +kernel
theorem dX11_window_83 : decode cX11_window 83 = .ok (.iinc 5 1, 3) := by decide +kernel
theorem dX11_window_86 : decode cX11_window 86 = .ok (.goto (-58), 3) := by decide +kernel
theorem dX11_window_89 : decode cX11_window 89 = .ok (.iload_n 1, 1) := by decide +kernel
theorem dX11_window_90 : decode cX11_window 90 = .ok (.ifCond .eq 36, 3) := by decide +kernel
theorem dX11_window_93 : decode cX11_window 93 = .ok (.lload_n 3, 1) := by decide +kernel
theorem dX11_window_94 : decode cX11_window 94 = .ok (.aload_n 0, 1) := by decide +kernel
theorem dX11_window_95 : decode cX11_window 95 = .ok (.iload_n 2, 1) := by decide +kernel
theorem dX11_window_96 : decode cX11_window 96 = .ok (.iconst 1, 1) := by decide +kernel
theorem dX11_window_97 : decode cX11_window 97 = .ok (.invokevirtual 226, 3) := by decide +kernel
theorem dX11_window_100 : decode cX11_window 100 = .ok (.i2l, 1) := by decide +kernel
theorem dX11_window_101 : decode cX11_window 101 = .ok (.aload_n 0, 1) := by decide +kernel
theorem dX11_window_102 : decode cX11_window 102 = .ok (.iload_n 2, 1) := by decide +kernel
theorem dX11_window_103 : decode cX11_window 103 = .ok (.iconst 2, 1) := by decide +kernel
theorem dX11_window_104 : decode cX11_window 104 = .ok (.invokevirtual 226, 3) := by decide +kernel
theorem dX11_window_107 : decode cX11_window 107 = .ok (.i2l, 1) := by decide +kernel
theorem dX11_window_108 : decode cX11_window 108 = .ok (.ladd, 1) := by decide +kernel
theorem dX11_window_109 : decode cX11_window 109 = .ok (.aload_n 0, 1) := by decide +kernel
theorem dX11_window_110 : decode cX11_window 110 = .ok (.iload_n 2, 1) := by decide +kernel
theorem dX11_window_111 : decode cX11_window 111 = .ok (.bipush 7, 2) := by decide +kernel
theorem dX11_window_113 : decode cX11_window 113 = .ok (.invokevirtual 226, 3) := by decide +kernel
theorem dX11_window_116 : decode cX11_window 116 = .ok (.i2l, 1) := by decide +kernel
theorem dX11_window_117 : decode cX11_window 117 = .ok (.ladd, 1) := by decide +kernel
theorem dX11_window_118 : decode cX11_window 118 = .ok (.lcmp, 1) := by decide +kernel
theorem dX11_window_119 : decode cX11_window 119 = .ok (.ifCond .gt 7, 3) := by decide +kernel
theorem dX11_window_122 : decode cX11_window 122 = .ok (.iconst 1, 1) := by decide +kernel
theorem dX11_window_123 : decode cX11_window 123 = .ok (.goto 4, 3) := by decide +kernel
theorem dX11_window_126 : decode cX11_window 126 = .ok (.iconst 0, 1) := by decide +kernel
theorem dX11_window_127 : decode cX11_window 127 = .ok (.istore_n 1, 1) := by decide +kernel
theorem dX11_window_128 : decode cX11_window 128 = .ok (.iinc 2 1, 3) := by decide +kernel
theorem dX11_window_131 : decode cX11_window 131 = .ok (.goto (-118), 3) := by decide +kernel
theorem dX11_window_134 : decode cX11_window 134 = .ok (.iload_n 1, 1) := by decide +kernel
theorem dX11_window_135 : decode cX11_window 135 = .ok (.invokestatic 122, 3) := by decide +kernel
theorem dX11_window_138 : decode cX11_window 138 = .ok (.ireturn, 1) := by decide +kernel
theorem dX11_shareAt_0 : decode cX11_shareAt 0 = .ok (.aload_n 0, 1) := by decide +kernel
theorem dX11_shareAt_1 : decode cX11_shareAt 1 = .ok (.iload_n 1, 1) := by decide +kernel
theorem dX11_shareAt_2 : decode cX11_shareAt 2 = .ok (.iload_n 2, 1) := by decide +kernel
theorem dX11_shareAt_3 : decode cX11_shareAt 3 = .ok (.invokevirtual 236, 3) := by decide +kernel
theorem dX11_shareAt_6 : decode cX11_shareAt 6 = .ok (.ifCond .eq 33, 3) := by decide +kernel
theorem dX11_shareAt_9 : decode cX11_shareAt 9 = .ok (.iload_n 3, 1) := by decide +kernel
theorem dX11_shareAt_10 : decode cX11_shareAt 10 = .ok (.i2l, 1) := by decide +kernel
theorem dX11_shareAt_11 : decode cX11_shareAt 11 = .ok (.lconst 0, 1) := by decide +kernel
theorem dX11_shareAt_12 : decode cX11_shareAt 12 = .ok (.ldc2_w 174, 3) := by decide +kernel
theorem dX11_shareAt_15 : decode cX11_shareAt 15 = .ok (.invokestatic 51, 3) := by decide +kernel
theorem dX11_shareAt_18 : decode cX11_shareAt 18 = .ok (.ifCond .eq 21, 3) := by decide +kernel
theorem dX11_shareAt_21 : decode cX11_shareAt 21 = .ok (.aload_n 0, 1) := by decide +kernel
theorem dX11_shareAt_22 : decode cX11_shareAt 22 = .ok (.iload_n 1, 1) := by decide +kernel
theorem dX11_shareAt_23 : decode cX11_shareAt 23 = .ok (.iload_n 2, 1) := by decide +kernel
theorem dX11_shareAt_24 : decode cX11_shareAt 24 = .ok (.aload_n 0, 1) := by decide +kernel
theorem dX11_shareAt_25 : decode cX11_shareAt 25 = .ok (.iload_n 2, 1) := by decide +kernel
theorem dX11_shareAt_26 : decode cX11_shareAt 26 = .ok (.iconst 1, 1) := by decide +kernel
theorem dX11_shareAt_27 : decode cX11_shareAt 27 = .ok (.invokevirtual 226, 3) := by decide +kernel
theorem dX11_shareAt_30 : decode cX11_shareAt 30 = .ok (.i2l, 1) := by decide +kernel
theorem dX11_shareAt_31 : decode cX11_shareAt 31 = .ok (.iload_n 3, 1) := by decide +kernel
theorem dX11_shareAt_32 : decode cX11_shareAt 32 = .ok (.i2l, 1) := by decide +kernel
theorem dX11_shareAt_33 : decode cX11_shareAt 33 = .ok (.invokevirtual 189, 3) := by decide +kernel
theorem dX11_shareAt_36 : decode cX11_shareAt 36 = .ok (.goto 4, 3) := by decide +kernel
theorem dX11_shareAt_39 : decode cX11_shareAt 39 = .ok (.iconst (-1), 1) := by decide +kernel
theorem dX11_shareAt_40 : decode cX11_shareAt 40 = .ok (.ireturn, 1) := by decide +kernel
theorem dX11_speed_0 : decode cX11_speed 0 = .ok (.aload_n 0, 1) := by decide +kernel
theorem dX11_speed_1 : decode cX11_speed 1 = .ok (.iload_n 1, 1) := by decide +kernel
theorem dX11_speed_2 : decode cX11_speed 2 = .ok (.invokevirtual 248, 3) := by decide +kernel
theorem dX11_speed_5 : decode cX11_speed 5 = .ok (.ifCond .ne 7, 3) := by decide +kernel
theorem dX11_speed_8 : decode cX11_speed 8 = .ok (.ldc2_w 268, 3) := by decide +kernel
theorem dX11_speed_11 : decode cX11_speed 11 = .ok (.lreturn, 1) := by decide +kernel
theorem dX11_speed_12 : decode cX11_speed 12 = .ok (.aload_n 0, 1) := by decide +kernel
theorem dX11_speed_13 : decode cX11_speed 13 = .ok (.getfield 9, 3) := by decide +kernel
theorem dX11_speed_16 : decode cX11_speed 16 = .ok (.iload_n 1, 1) := by decide +kernel
theorem dX11_speed_17 : decode cX11_speed 17 = .ok (.iconst 4, 1) := by decide +kernel
theorem dX11_speed_18 : decode cX11_speed 18 = .ok (.invokestatic 48, 3) := by decide +kernel
theorem dX11_speed_21 : decode cX11_speed 21 = .ok (.laload, 1) := by decide +kernel
theorem dX11_speed_22 : decode cX11_speed 22 = .ok (.lstore_n 2, 1) := by decide +kernel
theorem dX11_speed_23 : decode cX11_speed 23 = .ok (.lload_n 2, 1) := by decide +kernel
theorem dX11_speed_24 : decode cX11_speed 24 = .ok (.lconst 0, 1) := by decide +kernel
theorem dX11_speed_25 : decode cX11_speed 25 = .ok (.lcmp, 1) := by decide +kernel
theorem dX11_speed_26 : decode cX11_speed 26 = .ok (.ifCond .ne 9, 3) := by decide +kernel
theorem dX11_speed_29 : decode cX11_speed 29 = .ok (.ldc2_w 307, 3) := by decide +kernel
theorem dX11_speed_32 : decode cX11_speed 32 = .ok (.goto 18, 3) := by decide +kernel
theorem dX11_speed_35 : decode cX11_speed 35 = .ok (.aload_n 0, 1) := by decide +kernel
theorem dX11_speed_36 : decode cX11_speed 36 = .ok (.getfield 9, 3) := by decide +kernel
theorem dX11_speed_39 : decode cX11_speed 39 = .ok (.iload_n 1, 1) := by decide +kernel
theorem dX11_speed_40 : decode cX11_speed 40 = .ok (.bipush 9, 2) := by decide +kernel
theorem dX11_speed_42 : decode cX11_speed 42 = .ok (.invokestatic 48, 3) := by decide +kernel
theorem dX11_speed_45 : decode cX11_speed 45 = .ok (.laload, 1) := by decide +kernel
theorem dX11_speed_46 : decode cX11_speed 46 = .ok (.l2d, 1) := by decide +kernel
theorem dX11_speed_47 : decode cX11_speed 47 = .ok (.lload_n 2, 1) := by decide +kernel
theorem dX11_speed_48 : decode cX11_speed 48 = .ok (.l2d, 1) := by decide +kernel
theorem dX11_speed_49 : decode cX11_speed 49 = .ok (.ddiv, 1) := by decide +kernel
theorem dX11_speed_50 : decode cX11_speed 50 = .ok (.invokestatic 276, 3) := by decide +kernel
theorem dX11_speed_53 : decode cX11_speed 53 = .ok (.lreturn, 1) := by decide +kernel
theorem dX11_sumOf_0 : decode cX11_sumOf 0 = .ok (.lconst 0, 1) := by decide +kernel
theorem dX11_sumOf_1 : decode cX11_sumOf 1 = .ok (.lstore 4, 2) := by decide +kernel
theorem dX11_sumOf_3 : decode cX11_sumOf 3 = .ok (.iconst 0, 1) := by decide +kernel
theorem dX11_sumOf_4 : decode cX11_sumOf 4 = .ok (.istore 6, 2) := by decide +kernel
theorem dX11_sumOf_6 : decode cX11_sumOf 6 = .ok (.iload 6, 2) := by decide +kernel
theorem dX11_sumOf_8 : decode cX11_sumOf 8 = .ok (.aload_n 0, 1) := by decide +kernel
theorem dX11_sumOf_9 : decode cX11_sumOf 9 = .ok (.bipush 8, 2) := by decide +kernel
theorem dX11_sumOf_11 : decode cX11_sumOf 11 = .ok (.invokevirtual 164, 3) := by decide +kernel
theorem dX11_sumOf_14 : decode cX11_sumOf 14 = .ok (.if_icmp .ge 40, 3) := by decide +kernel
theorem dX11_sumOf_17 : decode cX11_sumOf 17 = .ok (.lload 4, 2) := by decide +kernel
theorem dX11_sumOf_19 : decode cX11_sumOf 19 = .ok (.aload_n 0, 1) := by decide +kernel
theorem dX11_sumOf_20 : decode cX11_sumOf 20 = .ok (.iload 6, 2) := by decide +kernel
theorem dX11_sumOf_22 : decode cX11_sumOf 22 = .ok (.iload_n 1, 1) := by decide +kernel
theorem dX11_sumOf_23 : decode cX11_sumOf 23 = .ok (.iload_n 2, 1) := by decide +kernel
theorem dX11_sumOf_24 : decode cX11_sumOf 24 = .ok (.invokevirtual 202, 3) := by decide +kernel
theorem dX11_sumOf_27 : decode cX11_sumOf 27 = .ok (.ifCond .eq 17, 3) := by decide +kernel
theorem dX11_sumOf_30 : decode cX11_sumOf 30 = .ok (.aload_n 0, 1) := by decide +kernel
theorem dX11_sumOf_31 : decode cX11_sumOf 31 = .ok (.getfield 9, 3) := by decide +kernel
theorem dX11_sumOf_34 : decode cX11_sumOf 34 = .ok (.iload 6, 2) := by decide +kernel
theorem dX11_sumOf_36 : decode cX11_sumOf 36 = .ok (.iload_n 3, 1) := by decide +kernel
theorem dX11_sumOf_37 : decode cX11_sumOf 37 = .ok (.invokestatic 48, 3) := by decide +kernel
theorem dX11_sumOf_40 : decode cX11_sumOf 40 = .ok (.laload, 1) := by decide +kernel
theorem dX11_sumOf_41 : decode cX11_sumOf 41 = .ok (.goto 4, 3) := by decide +kernel
theorem dX11_sumOf_44 : decode cX11_sumOf 44 = .ok (.lconst 0, 1) := by decide +kernel
theorem dX11_sumOf_45 : decode cX11_sumOf 45 = .ok (.ladd, 1) := by decide +kernel
theorem dX11_sumOf_46 : decode cX11_sumOf 46 = .ok (.lstore 4, 2) := by decide +kernel
theorem dX11_sumOf_48 : decode cX11_sumOf 48 = .ok (.iinc 6 1, 3) := by decide +kernel
theorem dX11_sumOf_51 : decode cX11_sumOf 51 = .ok (.goto (-45), 3) := by decide +kernel
theorem dX11_sumOf_54 : decode cX11_sumOf 54 = .ok (.lload 4, 2) := by decide +kernel
theorem dX11_sumOf_56 : decode cX11_sumOf 56 = .ok (.lreturn, 1) := by decide +kernel
theorem dX11_fastest_0 : decode cX11_fastest 0 = .ok (.aload_n 0, 1) := by decide +kernel
theorem dX11_fastest_1 : decode cX11_fastest 1 = .ok (.iload_n 1, 1) := by decide +kernel
theorem dX11_fastest_2 : decode cX11_fastest 2 = .ok (.invokevirtual 59, 3) := by decide +kernel
theorem dX11_fastest_5 : decode cX11_fastest 5 = .ok (.ifCond .ne 5, 3) := by decide +kernel
theorem dX11_fastest_8 : decode cX11_fastest 8 = .ok (.iconst (-1), 1) := by decide +kernel
theorem dX11_fastest_9 : decode cX11_fastest 9 = .ok (.ireturn, 1) := by decide +kernel
theorem dX11_fastest_10 : decode cX11_fastest 10 = .ok (.bipush (-2), 2) := by decide +kernel
theorem dX11_fastest_12 : decode cX11_fastest 12 = .ok (.istore_n 2, 1) := by decide +kernel
theorem dX11_fastest_13 : decode cX11_fastest 13 = .ok (.iconst 0, 1) := by decide +kernel
theorem dX11_fastest_14 : decode cX11_fastest 14 = .ok (.istore_n 3, 1) := by decide +kernel
theorem dX11_fastest_15 : decode cX11_fastest 15 = .ok (.iload_n 3, 1) := by decide +kernel
theorem dX11_fastest_16 : decode cX11_fastest 16 = .ok (.aload_n 0, 1) := by decide +kernel
theorem dX11_fastest_17 : decode cX11_fastest 17 = .ok (.bipush 7, 2) := by decide +kernel
theorem dX11_fastest_19 : decode cX11_fastest 19 = .ok (.invokevirtual 164, 3) := by decide +kernel
theorem dX11_fastest_22 : decode cX11_fastest 22 = .ok (.if_icmp .ge 68, 3) := by decide +kernel
theorem dX11_fastest_25 : decode cX11_fastest 25 = .ok (.aload_n 0, 1) := by decide +kernel
theorem dX11_fastest_26 : decode cX11_fastest 26 = .ok (.iload_n 3, 1) := by decide +kernel
theorem dX11_fastest_27 : decode cX11_fastest 27 = .ok (.iload_n 1, 1) := by decide +kernel
theorem dX11_fastest_28 : decode cX11_fastest 28 = .ok (.iconst 4, 1) := by decide +kernel
theorem dX11_fastest_29 : decode cX11_fastest 29 = .ok (.invokevirtual 323, 3) := by decide +kernel
theorem dX11_fastest_32 : decode cX11_fastest 32 = .ok (.lconst 0, 1) := by decide +kernel
theorem dX11_fastest_33 : decode cX11_fastest 33 = .ok (.lcmp, 1) := by decide +kernel
theorem dX11_fastest_34 : decode cX11_fastest 34 = .ok (.ifCond .ne 6, 3) := by decide +kernel
theorem dX11_fastest_37 : decode cX11_fastest 37 = .ok (.goto 47, 3) := by decide +kernel
theorem dX11_fastest_40 : decode cX11_fastest 40 = .ok (.iload_n 2, 1) := by decide +kernel
theorem dX11_fastest_41 : decode cX11_fastest 41 = .ok (.bipush (-2), 2) := by decide +kernel
theorem dX11_fastest_43 : decode cX11_fastest 43 = .ok (.if_icmp .eq 39, 3) := by decide +kernel
theorem dX11_fastest_46 : decode cX11_fastest 46 = .ok (.aload_n 0, 1) := by decide +kernel
theorem dX11_fastest_47 : decode cX11_fastest 47 = .ok (.iload_n 3, 1) := by decide +kernel
theorem dX11_fastest_48 : decode cX11_fastest 48 = .ok (.iload_n 1, 1) := by decide +kernel
theorem dX11_fastest_49 : decode cX11_fastest 49 = .ok (.bipush 9, 2) := by decide +kernel
theorem dX11_fastest_51 : decode cX11_fastest 51 = .ok (.invokevirtual 323, 3) := by decide +kernel
theorem dX11_fastest_54 : decode cX11_fastest 54 = .ok (.aload_n 0, 1) := by decide +kernel
theorem dX11_fastest_55 : decode cX11_fastest 55 = .ok (.iload_n 2, 1) := by decide +kernel
theorem dX11_fastest_56 : decode cX11_fastest 56 = .ok (.iload_n 1, 1) := by decide +kernel
theorem dX11_fastest_57 : decode cX11_fastest 57 = .ok (.iconst 4, 1) := by decide +kernel
theorem dX11_fastest_58 : decode cX11_fastest 58 = .ok (.invokevirtual 323, 3) := by decide +kernel
theorem dX11_fastest_61 : decode cX11_fastest 61 = .ok (.lmul, 1) := by decide +kernel
theorem dX11_fastest_62 : decode cX11_fastest 62 = .ok (.aload_n 0, 1) := by decide +kernel
theorem dX11_fastest_63 : decode cX11_fastest 63 = .ok (.iload_n 2, 1) := by decide +kernel
theorem dX11_fastest_64 : decode cX11_fastest 64 = .ok (.iload_n 1, 1) := by decide +kernel
theorem dX11_fastest_65 : decode cX11_fastest 65 = .ok (.bipush 9, 2) := by decide +kernel
theorem dX11_fastest_67 : decode cX11_fastest 67 = .ok (.invokevirtual 323, 3) := by decide +kernel
theorem dX11_fastest_70 : decode cX11_fastest 70 = .ok (.aload_n 0, 1) := by decide +kernel
theorem dX11_fastest_71 : decode cX11_fastest 71 = .ok (.iload_n 3, 1) := by decide +kernel
theorem dX11_fastest_72 : decode cX11_fastest 72 = .ok (.iload_n 1, 1) := by decide +kernel
theorem dX11_fastest_73 : decode cX11_fastest 73 = .ok (.iconst 4, 1) := by decide +kernel
theorem dX11_fastest_74 : decode cX11_fastest 74 = .ok (.invokevirtual 323, 3) := by decide +kernel
theorem dX11_fastest_77 : decode cX11_fastest 77 = .ok (.lmul, 1) := by decide +kernel
theorem dX11_fastest_78 : decode cX11_fastest 78 = .ok (.lcmp, 1) := by decide +kernel
theorem dX11_fastest_79 : decode cX11_fastest 79 = .ok (.ifCond .ge 5, 3) := by decide +kernel
theorem dX11_fastest_82 : decode cX11_fastest 82 = .ok (.iload_n 3, 1) := by decide +kernel
theorem dX11_fastest_83 : decode cX11_fastest 83 = .ok (.istore_n 2, 1) := by decide +kernel
theorem dX11_fastest_84 : decode cX11_fastest 84 = .ok (.iinc 3 1, 3) := by decide +kernel
theorem dX11_fastest_87 : decode cX11_fastest 87 = .ok (.goto (-72), 3) := by decide +kernel
theorem dX11_fastest_90 : decode cX11_fastest 90 = .ok (.iload_n 2, 1) := by decide +kernel
theorem dX11_fastest_91 : decode cX11_fastest 91 = .ok (.ireturn, 1) := by decide +kernel
theorem dX11_log_0 : decode cX11_log 0 = .ok (.iload_n 1, 1) := by decide +kernel
theorem dX11_log_1 : decode cX11_log 1 = .ok (.i2l, 1) := by decide +kernel
theorem dX11_log_2 : decode cX11_log 2 = .ok (.lconst 0, 1) := by decide +kernel
theorem dX11_log_3 : decode cX11_log 3 = .ok (.aload_n 0, 1) := by decide +kernel
theorem dX11_log_4 : decode cX11_log 4 = .ok (.getfield 9, 3) := by decide +kernel
theorem dX11_log_7 : decode cX11_log 7 = .ok (.bipush 10, 2) := by decide +kernel
theorem dX11_log_9 : decode cX11_log 9 = .ok (.laload, 1) := by decide +kernel
theorem dX11_log_10 : decode cX11_log 10 = .ok (.lconst 1, 1) := by decide +kernel
theorem dX11_log_11 : decode cX11_log 11 = .ok (.lsub, 1) := by decide +kernel
theorem dX11_log_12 : decode cX11_log 12 = .ok (.invokestatic 51, 3) := by decide +kernel
theorem dX11_log_15 : decode cX11_log 15 = .ok (.ifCond .eq 45, 3) := by decide +kernel
theorem dX11_log_18 : decode cX11_log 18 = .ok (.aload_n 0, 1) := by decide +kernel
theorem dX11_log_19 : decode cX11_log 19 = .ok (.iload_n 2, 1) := by decide +kernel
theorem dX11_log_20 : decode cX11_log 20 = .ok (.invokevirtual 59, 3) := by decide +kernel
theorem dX11_log_23 : decode cX11_log 23 = .ok (.ifCond .eq 37, 3) := by decide +kernel
theorem dX11_log_26 : decode cX11_log 26 = .ok (.iload_n 3, 1) := by decide +kernel
theorem dX11_log_27 : decode cX11_log 27 = .ok (.i2l, 1) := by decide +kernel
theorem dX11_log_28 : decode cX11_log 28 = .ok (.lconst 0, 1) := by decide +kernel
theorem dX11_log_29 : decode cX11_log 29 = .ok (.ldc2_w 129, 3) := by decide +kernel
theorem dX11_log_32 : decode cX11_log 32 = .ok (.invokestatic 51, 3) := by decide +kernel
theorem dX11_log_35 : decode cX11_log 35 = .ok (.ifCond .eq 25, 3) := by decide +kernel
theorem dX11_log_38 : decode cX11_log 38 = .ok (.aload_n 0, 1) := by decide +kernel
theorem dX11_log_39 : decode cX11_log 39 = .ok (.getfield 9, 3) := by decide +kernel
theorem dX11_log_42 : decode cX11_log 42 = .ok (.sipush 1056, 3) := by decide +kernel
theorem dX11_log_45 : decode cX11_log 45 = .ok (.iconst 5, 1) := by decide +kernel
theorem dX11_log_46 : decode cX11_log 46 = .ok (.iconst 4, 1) := by decide +kernel
theorem dX11_log_47 : decode cX11_log 47 = .ok (.iload_n 1, 1) := by decide +kernel
theorem dX11_log_48 : decode cX11_log 48 = .ok (.imul, 1) := by decide +kernel
theorem dX11_log_49 : decode cX11_log 49 = .ok (.iload_n 2, 1) := by decide +kernel
theorem dX11_log_50 : decode cX11_log 50 = .ok (.iadd, 1) := by decide +kernel
theorem dX11_log_51 : decode cX11_log 51 = .ok (.imul, 1) := by decide +kernel
theorem dX11_log_52 : decode cX11_log 52 = .ok (.iadd, 1) := by decide +kernel
theorem dX11_log_53 : decode cX11_log 53 = .ok (.iload_n 3, 1) := by decide +kernel
theorem dX11_log_54 : decode cX11_log 54 = .ok (.iadd, 1) := by decide +kernel
theorem dX11_log_55 : decode cX11_log 55 = .ok (.laload, 1) := by decide +kernel
theorem dX11_log_56 : decode cX11_log 56 = .ok (.l2i, 1) := by decide +kernel
theorem dX11_log_57 : decode cX11_log 57 = .ok (.goto 4, 3) := by decide +kernel
theorem dX11_log_60 : decode cX11_log 60 = .ok (.iconst (-1), 1) := by decide +kernel
theorem dX11_log_61 : decode cX11_log 61 = .ok (.ireturn, 1) := by decide +kernel
theorem dX11_risk_0 : decode cX11_risk 0 = .ok (.iload_n 1, 1) := by decide +kernel
theorem dX11_risk_1 : decode cX11_risk 1 = .ok (.iconst (-1), 1) := by decide +kernel
theorem dX11_risk_2 : decode cX11_risk 2 = .ok (.if_icmp .ge 5, 3) := by decide +kernel
theorem dX11_risk_5 : decode cX11_risk 5 = .ok (.iconst (-1), 1) := by decide +kernel
theorem dX11_risk_6 : decode cX11_risk 6 = .ok (.ireturn, 1) := by decide +kernel
theorem dX11_risk_7 : decode cX11_risk 7 = .ok (.iconst 0, 1) := by decide +kernel
theorem dX11_risk_8 : decode cX11_risk 8 = .ok (.istore_n 2, 1) := by decide +kernel
theorem dX11_risk_9 : decode cX11_risk 9 = .ok (.iconst 0, 1) := by decide +kernel
theorem dX11_risk_10 : decode cX11_risk 10 = .ok (.istore_n 3, 1) := by decide +kernel
theorem dX11_risk_11 : decode cX11_risk 11 = .ok (.iload_n 3, 1) := by decide +kernel
theorem dX11_risk_12 : decode cX11_risk 12 = .ok (.aload_n 0, 1) := by decide +kernel
theorem dX11_risk_13 : decode cX11_risk 13 = .ok (.bipush 8, 2) := by decide +kernel
theorem dX11_risk_15 : decode cX11_risk 15 = .ok (.invokevirtual 164, 3) := by decide +kernel
theorem dX11_risk_18 : decode cX11_risk 18 = .ok (.if_icmp .ge 38, 3) := by decide +kernel
theorem dX11_risk_21 : decode cX11_risk 21 = .ok (.aload_n 0, 1) := by decide +kernel
theorem dX11_risk_22 : decode cX11_risk 22 = .ok (.iload_n 3, 1) := by decide +kernel
theorem dX11_risk_23 : decode cX11_risk 23 = .ok (.invokevirtual 199, 3) := by decide +kernel
theorem dX11_risk_26 : decode cX11_risk 26 = .ok (.ifCond .eq 24, 3) := by decide +kernel
theorem dX11_risk_29 : decode cX11_risk 29 = .ok (.aload_n 0, 1) := by decide +kernel
theorem dX11_risk_30 : decode cX11_risk 30 = .ok (.iload_n 3, 1) := by decide +kernel
theorem dX11_risk_31 : decode cX11_risk 31 = .ok (.invokevirtual 209, 3) := by decide +kernel
theorem dX11_risk_34 : decode cX11_risk 34 = .ok (.ifCond .ne 6, 3) := by decide +kernel
theorem dX11_risk_37 : decode cX11_risk 37 = .ok (.goto 13, 3) := by decide +kernel
theorem dX11_risk_40 : decode cX11_risk 40 = .ok (.iload_n 2, 1) := by decide +kernel
theorem dX11_risk_41 : decode cX11_risk 41 = .ok (.iload_n 1, 1) := by decide +kernel
theorem dX11_risk_42 : decode cX11_risk 42 = .ok (.if_icmp .ne 5, 3) := by decide +kernel
theorem dX11_risk_45 : decode cX11_risk 45 = .ok (.iload_n 3, 1) := by decide +kernel
theorem dX11_risk_46 : decode cX11_risk 46 = .ok (.ireturn, 1) := by decide +kernel
theorem dX11_risk_47 : decode cX11_risk 47 = .ok (.iinc 2 1, 3) := by decide +kernel
theorem dX11_risk_50 : decode cX11_risk 50 = .ok (.iinc 3 1, 3) := by decide +kernel
theorem dX11_risk_53 : decode cX11_risk 53 = .ok (.goto (-42), 3) := by decide +kernel
theorem dX11_risk_56 : decode cX11_risk 56 = .ok (.iload_n 1, 1) := by decide +kernel
theorem dX11_risk_57 : decode cX11_risk 57 = .ok (.iconst (-1), 1) := by decide +kernel
theorem dX11_risk_58 : decode cX11_risk 58 = .ok (.if_icmp .ne 7, 3) := by decide +kernel
theorem dX11_risk_61 : decode cX11_risk 61 = .ok (.iload_n 2, 1) := by decide +kernel
theorem dX11_risk_62 : decode cX11_risk 62 = .ok (.goto 5, 3) := by decide +kernel
theorem dX11_risk_65 : decode cX11_risk 65 = .ok (.bipush (-2), 2) := by decide +kernel
theorem dX11_risk_67 : decode cX11_risk 67 = .ok (.ireturn, 1) := by decide +kernel
theorem dX11_lacks_0 : decode cX11_lacks 0 = .ok (.aload_n 0, 1) := by decide +kernel
theorem dX11_lacks_1 : decode cX11_lacks 1 = .ok (.iload_n 1, 1) := by decide +kernel
theorem dX11_lacks_2 : decode cX11_lacks 2 = .ok (.iload_n 2, 1) := by decide +kernel
theorem dX11_lacks_3 : decode cX11_lacks 3 = .ok (.invokevirtual 236, 3) := by decide +kernel
theorem dX11_lacks_6 : decode cX11_lacks 6 = .ok (.ifCond .eq 10, 3) := by decide +kernel
theorem dX11_lacks_9 : decode cX11_lacks 9 = .ok (.iload_n 3, 1) := by decide +kernel
theorem dX11_lacks_10 : decode cX11_lacks 10 = .ok (.invokestatic 239, 3) := by decide +kernel
theorem dX11_lacks_13 : decode cX11_lacks 13 = .ok (.ifCond .ne 5, 3) := by decide +kernel
theorem dX11_lacks_16 : decode cX11_lacks 16 = .ok (.iconst (-1), 1) := by decide +kernel
theorem dX11_lacks_17 : decode cX11_lacks 17 = .ok (.ireturn, 1) := by decide +kernel
theorem dX11_lacks_18 : decode cX11_lacks 18 = .ok (.lconst 0, 1) := by decide +kernel
theorem dX11_lacks_19 : decode cX11_lacks 19 = .ok (.lstore 4, 2) := by decide +kernel
theorem dX11_lacks_21 : decode cX11_lacks 21 = .ok (.iconst 0, 1) := by decide +kernel
theorem dX11_lacks_22 : decode cX11_lacks 22 = .ok (.istore 6, 2) := by decide +kernel
theorem dX11_lacks_24 : decode cX11_lacks 24 = .ok (.iload 6, 2) := by decide +kernel
theorem dX11_lacks_26 : decode cX11_lacks 26 = .ok (.aload_n 0, 1) := by decide +kernel
theorem dX11_lacks_27 : decode cX11_lacks 27 = .ok (.bipush 8, 2) := by decide +kernel
theorem dX11_lacks_29 : decode cX11_lacks 29 = .ok (.invokevirtual 164, 3) := by decide +kernel
theorem dX11_lacks_32 : decode cX11_lacks 32 = .ok (.if_icmp .ge 36, 3) := by decide +kernel
theorem dX11_lacks_35 : decode cX11_lacks 35 = .ok (.lload 4, 2) := by decide +kernel
theorem dX11_lacks_37 : decode cX11_lacks 37 = .ok (.aload_n 0, 1) := by decide +kernel
theorem dX11_lacks_38 : decode cX11_lacks 38 = .ok (.iload 6, 2) := by decide +kernel
theorem dX11_lacks_40 : decode cX11_lacks 40 = .ok (.iload_n 1, 1) := by decide +kernel
theorem dX11_lacks_41 : decode cX11_lacks 41 = .ok (.iload_n 2, 1) := by decide +kernel
theorem dX11_lacks_42 : decode cX11_lacks 42 = .ok (.invokevirtual 202, 3) := by decide +kernel
theorem dX11_lacks_45 : decode cX11_lacks 45 = .ok (.ifCond .eq 13, 3) := by decide +kernel
theorem dX11_lacks_48 : decode cX11_lacks 48 = .ok (.aload_n 0, 1) := by decide +kernel
theorem dX11_lacks_49 : decode cX11_lacks 49 = .ok (.iload 6, 2) := by decide +kernel
theorem dX11_lacks_51 : decode cX11_lacks 51 = .ok (.invokevirtual 214, 3) := by decide +kernel
theorem dX11_lacks_54 : decode cX11_lacks 54 = .ok (.i2l, 1) := by decide +kernel
theorem dX11_lacks_55 : decode cX11_lacks 55 = .ok (.goto 4, 3) := by decide +kernel
theorem dX11_lacks_58 : decode cX11_lacks 58 = .ok (.lconst 0, 1) := by decide +kernel
theorem dX11_lacks_59 : decode cX11_lacks 59 = .ok (.ladd, 1) := by decide +kernel
theorem dX11_lacks_60 : decode cX11_lacks 60 = .ok (.lstore 4, 2) := by decide +kernel
theorem dX11_lacks_62 : decode cX11_lacks 62 = .ok (.iinc 6 1, 3) := by decide +kernel
theorem dX11_lacks_65 : decode cX11_lacks 65 = .ok (.goto (-41), 3) := by decide +kernel
theorem dX11_lacks_68 : decode cX11_lacks 68 = .ok (.lconst 0, 1) := by decide +kernel
theorem dX11_lacks_69 : decode cX11_lacks 69 = .ok (.iload_n 3, 1) := by decide +kernel
theorem dX11_lacks_70 : decode cX11_lacks 70 = .ok (.i2l, 1) := by decide +kernel
theorem dX11_lacks_71 : decode cX11_lacks 71 = .ok (.lload 4, 2) := by decide +kernel
theorem dX11_lacks_73 : decode cX11_lacks 73 = .ok (.lsub, 1) := by decide +kernel
theorem dX11_lacks_74 : decode cX11_lacks 74 = .ok (.invokestatic 327, 3) := by decide +kernel
theorem dX11_lacks_77 : decode cX11_lacks 77 = .ok (.l2i, 1) := by decide +kernel
theorem dX11_lacks_78 : decode cX11_lacks 78 = .ok (.ireturn, 1) := by decide +kernel
theorem dX11_pace_0 : decode cX11_pace 0 = .ok (.aload_n 0, 1) := by decide +kernel
theorem dX11_pace_1 : decode cX11_pace 1 = .ok (.iload_n 1, 1) := by decide +kernel
theorem dX11_pace_2 : decode cX11_pace 2 = .ok (.invokevirtual 55, 3) := by decide +kernel
theorem dX11_pace_5 : decode cX11_pace 5 = .ok (.ifCond .eq 30, 3) := by decide +kernel
theorem dX11_pace_8 : decode cX11_pace 8 = .ok (.aload_n 0, 1) := by decide +kernel
theorem dX11_pace_9 : decode cX11_pace 9 = .ok (.iload_n 1, 1) := by decide +kernel
theorem dX11_pace_10 : decode cX11_pace 10 = .ok (.invokevirtual 318, 3) := by decide +kernel
theorem dX11_pace_13 : decode cX11_pace 13 = .ok (.l2f, 1) := by decide +kernel
theorem dX11_pace_14 : decode cX11_pace 14 = .ok (.aload_n 0, 1) := by decide +kernel
theorem dX11_pace_15 : decode cX11_pace 15 = .ok (.getfield 9, 3) := by decide +kernel
theorem dX11_pace_18 : decode cX11_pace 18 = .ok (.bipush 9, 2) := by decide +kernel
theorem dX11_pace_20 : decode cX11_pace 20 = .ok (.laload, 1) := by decide +kernel
theorem dX11_pace_21 : decode cX11_pace 21 = .ok (.ldc2_w 180, 3) := by decide +kernel
theorem dX11_pace_24 : decode cX11_pace 24 = .ok (.lrem, 1) := by decide +kernel
theorem dX11_pace_25 : decode cX11_pace 25 = .ok (.lconst 1, 1) := by decide +kernel
theorem dX11_pace_26 : decode cX11_pace 26 = .ok (.ladd, 1) := by decide +kernel
theorem dX11_pace_27 : decode cX11_pace 27 = .ok (.l2f, 1) := by decide +kernel
theorem dX11_pace_28 : decode cX11_pace 28 = .ok (.fdiv, 1) := by decide +kernel
theorem dX11_pace_29 : decode cX11_pace 29 = .ok (.invokestatic 330, 3) := by decide +kernel
theorem dX11_pace_32 : decode cX11_pace 32 = .ok (.goto 4, 3) := by decide +kernel
theorem dX11_pace_35 : decode cX11_pace 35 = .ok (.iconst (-1), 1) := by decide +kernel
theorem dX11_pace_36 : decode cX11_pace 36 = .ok (.ireturn, 1) := by decide +kernel
theorem dX11_peak_0 : decode cX11_peak 0 = .ok (.aload_n 0, 1) := by decide +kernel
theorem dX11_peak_1 : decode cX11_peak 1 = .ok (.iload_n 1, 1) := by decide +kernel
theorem dX11_peak_2 : decode cX11_peak 2 = .ok (.invokevirtual 59, 3) := by decide +kernel
theorem dX11_peak_5 : decode cX11_peak 5 = .ok (.ifCond .eq 25, 3) := by decide +kernel
theorem dX11_peak_8 : decode cX11_peak 8 = .ok (.iload_n 2, 1) := by decide +kernel
theorem dX11_peak_9 : decode cX11_peak 9 = .ok (.i2l, 1) := by decide +kernel
theorem dX11_peak_10 : decode cX11_peak 10 = .ok (.lconst 1, 1) := by decide +kernel
theorem dX11_peak_11 : decode cX11_peak 11 = .ok (.ldc2_w 336, 3) := by decide +kernel
theorem dX11_peak_14 : decode cX11_peak 14 = .ok (.invokestatic 51, 3) := by decide +kernel
theorem dX11_peak_17 : decode cX11_peak 17 = .ok (.ifCond .eq 13, 3) := by decide +kernel
theorem dX11_peak_20 : decode cX11_peak 20 = .ok (.iload_n 3, 1) := by decide +kernel
theorem dX11_peak_21 : decode cX11_peak 21 = .ok (.i2l, 1) := by decide +kernel
theorem dX11_peak_22 : decode cX11_peak 22 = .ok (.lconst 0, 1) := by decide +kernel
theorem dX11_peak_23 : decode cX11_peak 23 = .ok (.lconst 1, 1) := by decide +kernel
theorem dX11_peak_24 : decode cX11_peak 24 = .ok (.invokestatic 51, 3) := by decide +kernel
theorem dX11_peak_27 : decode cX11_peak 27 = .ok (.ifCond .ne 5, 3) := by decide +kernel
theorem dX11_peak_30 : decode cX11_peak 30 = .ok (.iconst (-1), 1) := by decide +kernel
theorem dX11_peak_31 : decode cX11_peak 31 = .ok (.ireturn, 1) := by decide +kernel
theorem dX11_peak_32 : decode cX11_peak 32 = .ok (.iconst 0, 1) := by decide +kernel
theorem dX11_peak_33 : decode cX11_peak 33 = .ok (.istore 4, 2) := by decide +kernel
theorem dX11_peak_35 : decode cX11_peak 35 = .ok (.ldc2_w 268, 3) := by decide +kernel
theorem dX11_peak_38 : decode cX11_peak 38 = .ok (.lstore 5, 2) := by decide +kernel
theorem dX11_peak_40 : decode cX11_peak 40 = .ok (.iconst 0, 1) := by decide +kernel
theorem dX11_peak_41 : decode cX11_peak 41 = .ok (.istore 7, 2) := by decide +kernel
theorem dX11_peak_43 : decode cX11_peak 43 = .ok (.iload 7, 2) := by decide +kernel
theorem dX11_peak_45 : decode cX11_peak 45 = .ok (.iload_n 2, 1) := by decide +kernel
theorem dX11_peak_46 : decode cX11_peak 46 = .ok (.iadd, 1) := by decide +kernel
theorem dX11_peak_47 : decode cX11_peak 47 = .ok (.bipush 12, 2) := by decide +kernel
theorem dX11_peak_49 : decode cX11_peak 49 = .ok (.if_icmp .gt 67, 3) := by decide +kernel
theorem dX11_peak_52 : decode cX11_peak 52 = .ok (.lconst 0, 1) := by decide +kernel
theorem dX11_peak_53 : decode cX11_peak 53 = .ok (.lstore 8, 2) := by decide +kernel
theorem dX11_peak_55 : decode cX11_peak 55 = .ok (.iconst 0, 1) := by decide +kernel
theorem dX11_peak_56 : decode cX11_peak 56 = .ok (.istore 10, 2) := by decide +kernel
theorem dX11_peak_58 : decode cX11_peak 58 = .ok (.iload 10, 2) := by decide +kernel
theorem dX11_peak_60 : decode cX11_peak 60 = .ok (.iload_n 2, 1) := by decide +kernel
theorem dX11_peak_61 : decode cX11_peak 61 = .ok (.if_icmp .ge 33, 3) := by decide +kernel
theorem dX11_peak_64 : decode cX11_peak 64 = .ok (.lload 8, 2) := by decide +kernel
theorem dX11_peak_66 : decode cX11_peak 66 = .ok (.aload_n 0, 1) := by decide +kernel
theorem dX11_peak_67 : decode cX11_peak 67 = .ok (.getfield 9, 3) := by decide +kernel
theorem dX11_peak_70 : decode cX11_peak 70 = .ok (.sipush 408, 3) := by decide +kernel
theorem dX11_peak_73 : decode cX11_peak 73 = .ok (.bipush 12, 2) := by decide +kernel
theorem dX11_peak_75 : decode cX11_peak 75 = .ok (.iload_n 1, 1) := by decide +kernel
theorem dX11_peak_76 : decode cX11_peak 76 = .ok (.imul, 1) := by decide +kernel
theorem dX11_peak_77 : decode cX11_peak 77 = .ok (.iadd, 1) := by decide +kernel
theorem dX11_peak_78 : decode cX11_peak 78 = .ok (.iload 7, 2) := by decide +kernel
theorem dX11_peak_80 : decode cX11_peak 80 = .ok (.iadd, 1) := by decide +kernel
theorem dX11_peak_81 : decode cX11_peak 81 = .ok (.iload 10, 2) := by decide +kernel
theorem dX11_peak_83 : decode cX11_peak 83 = .ok (.iadd, 1) := by decide +kernel
theorem dX11_peak_84 : decode cX11_peak 84 = .ok (.laload, 1) := by decide +kernel
theorem dX11_peak_85 : decode cX11_peak 85 = .ok (.ladd, 1) := by decide +kernel
theorem dX11_peak_86 : decode cX11_peak 86 = .ok (.lstore 8, 2) := by decide +kernel
theorem dX11_peak_88 : decode cX11_peak 88 = .ok (.iinc 10 1, 3) := by decide +kernel
theorem dX11_peak_91 : decode cX11_peak 91 = .ok (.goto (-33), 3) := by decide +kernel
theorem dX11_peak_94 : decode cX11_peak 94 = .ok (.lload 8, 2) := by decide +kernel
theorem dX11_peak_96 : decode cX11_peak 96 = .ok (.lload 5, 2) := by decide +kernel
theorem dX11_peak_98 : decode cX11_peak 98 = .ok (.lcmp, 1) := by decide +kernel
theorem dX11_peak_99 : decode cX11_peak 99 = .ok (.ifCond .le 11, 3) := by decide +kernel
theorem dX11_peak_102 : decode cX11_peak 102 = .ok (.lload 8, 2) := by decide +kernel
theorem dX11_peak_104 : decode cX11_peak 104 = .ok (.lstore 5, 2) := by decide +kernel
theorem dX11_peak_106 : decode cX11_peak 106 = .ok (.iload 7, 2) := by decide +kernel
theorem dX11_peak_108 : decode cX11_peak 108 = .ok (.istore 4, 2) := by decide +kernel
theorem dX11_peak_110 : decode cX11_peak 110 = .ok (.iinc 7 1, 3) := by decide +kernel
theorem dX11_peak_113 : decode cX11_peak 113 = .ok (.goto (-70), 3) := by decide +kernel
theorem dX11_peak_116 : decode cX11_peak 116 = .ok (.iload_n 3, 1) := by decide +kernel
theorem dX11_peak_117 : decode cX11_peak 117 = .ok (.ifCond .ne 8, 3) := by decide +kernel
theorem dX11_peak_120 : decode cX11_peak 120 = .ok (.iload 4, 2) := by decide +kernel
theorem dX11_peak_122 : decode cX11_peak 122 = .ok (.goto 6, 3) := by decide +kernel
theorem dX11_peak_125 : decode cX11_peak 125 = .ok (.lload 5, 2) := by decide +kernel
theorem dX11_peak_127 : decode cX11_peak 127 = .ok (.l2i, 1) := by decide +kernel
theorem dX11_peak_128 : decode cX11_peak 128 = .ok (.ireturn, 1) := by decide +kernel
theorem dX11_even_0 : decode cX11_even 0 = .ok (.aload_n 0, 1) := by decide +kernel
theorem dX11_even_1 : decode cX11_even 1 = .ok (.iload_n 1, 1) := by decide +kernel
theorem dX11_even_2 : decode cX11_even 2 = .ok (.iload_n 2, 1) := by decide +kernel
theorem dX11_even_3 : decode cX11_even 3 = .ok (.invokevirtual 236, 3) := by decide +kernel
theorem dX11_even_6 : decode cX11_even 6 = .ok (.ifCond .eq 14, 3) := by decide +kernel
theorem dX11_even_9 : decode cX11_even 9 = .ok (.aload_n 0, 1) := by decide +kernel
theorem dX11_even_10 : decode cX11_even 10 = .ok (.iload_n 1, 1) := by decide +kernel
theorem dX11_even_11 : decode cX11_even 11 = .ok (.iload_n 2, 1) := by decide +kernel
theorem dX11_even_12 : decode cX11_even 12 = .ok (.iconst 4, 1) := by decide +kernel
theorem dX11_even_13 : decode cX11_even 13 = .ok (.invokevirtual 167, 3) := by decide +kernel
theorem dX11_even_16 : decode cX11_even 16 = .ok (.iconst 1, 1) := by decide +kernel
theorem dX11_even_17 : decode cX11_even 17 = .ok (.if_icmp .ne 5, 3) := by decide +kernel
theorem dX11_even_20 : decode cX11_even 20 = .ok (.iconst (-1), 1) := by decide +kernel
theorem dX11_even_21 : decode cX11_even 21 = .ok (.ireturn, 1) := by decide +kernel
theorem dX11_even_22 : decode cX11_even 22 = .ok (.iconst 0, 1) := by decide +kernel
theorem dX11_even_23 : decode cX11_even 23 = .ok (.istore_n 3, 1) := by decide +kernel
theorem dX11_even_24 : decode cX11_even 24 = .ok (.iconst 0, 1) := by decide +kernel
theorem dX11_even_25 : decode cX11_even 25 = .ok (.istore 4, 2) := by decide +kernel
theorem dX11_even_27 : decode cX11_even 27 = .ok (.iconst 0, 1) := by decide +kernel
theorem dX11_even_28 : decode cX11_even 28 = .ok (.istore 5, 2) := by decide +kernel
theorem dX11_even_30 : decode cX11_even 30 = .ok (.iload 5, 2) := by decide +kernel
theorem dX11_even_32 : decode cX11_even 32 = .ok (.aload_n 0, 1) := by decide +kernel
theorem dX11_even_33 : decode cX11_even 33 = .ok (.bipush 7, 2) := by decide +kernel
theorem dX11_even_35 : decode cX11_even 35 = .ok (.invokevirtual 164, 3) := by decide +kernel
theorem dX11_even_38 : decode cX11_even 38 = .ok (.if_icmp .ge 43, 3) := by decide +kernel
theorem dX11_even_41 : decode cX11_even 41 = .ok (.iconst 1, 1) := by decide +kernel
theorem dX11_even_42 : decode cX11_even 42 = .ok (.aload_n 0, 1) := by decide +kernel
theorem dX11_even_43 : decode cX11_even 43 = .ok (.iload 5, 2) := by decide +kernel
theorem dX11_even_45 : decode cX11_even 45 = .ok (.iload_n 2, 1) := by decide +kernel
theorem dX11_even_46 : decode cX11_even 46 = .ok (.iconst 4, 1) := by decide +kernel
theorem dX11_even_47 : decode cX11_even 47 = .ok (.invokevirtual 167, 3) := by decide +kernel
theorem dX11_even_50 : decode cX11_even 50 = .ok (.isub, 1) := by decide +kernel
theorem dX11_even_51 : decode cX11_even 51 = .ok (.istore 6, 2) := by decide +kernel
theorem dX11_even_53 : decode cX11_even 53 = .ok (.iload_n 3, 1) := by decide +kernel
theorem dX11_even_54 : decode cX11_even 54 = .ok (.iload 6, 2) := by decide +kernel
theorem dX11_even_56 : decode cX11_even 56 = .ok (.iadd, 1) := by decide +kernel
theorem dX11_even_57 : decode cX11_even 57 = .ok (.istore_n 3, 1) := by decide +kernel
theorem dX11_even_58 : decode cX11_even 58 = .ok (.iload 4, 2) := by decide +kernel
theorem dX11_even_60 : decode cX11_even 60 = .ok (.iload 5, 2) := by decide +kernel
theorem dX11_even_62 : decode cX11_even 62 = .ok (.iload_n 1, 1) := by decide +kernel
theorem dX11_even_63 : decode cX11_even 63 = .ok (.if_icmp .ge 8, 3) := by decide +kernel
theorem dX11_even_66 : decode cX11_even 66 = .ok (.iload 6, 2) := by decide +kernel
theorem dX11_even_68 : decode cX11_even 68 = .ok (.goto 4, 3) := by decide +kernel
theorem dX11_even_71 : decode cX11_even 71 = .ok (.iconst 0, 1) := by decide +kernel
theorem dX11_even_72 : decode cX11_even 72 = .ok (.iadd, 1) := by decide +kernel
theorem dX11_even_73 : decode cX11_even 73 = .ok (.istore 4, 2) := by decide +kernel
theorem dX11_even_75 : decode cX11_even 75 = .ok (.iinc 5 1, 3) := by decide +kernel
theorem dX11_even_78 : decode cX11_even 78 = .ok (.goto (-48), 3) := by decide +kernel
theorem dX11_even_81 : decode cX11_even 81 = .ok (.aload_n 0, 1) := by decide +kernel
theorem dX11_even_82 : decode cX11_even 82 = .ok (.iload_n 2, 1) := by decide +kernel
theorem dX11_even_83 : decode cX11_even 83 = .ok (.iconst 3, 1) := by decide +kernel
theorem dX11_even_84 : decode cX11_even 84 = .ok (.invokevirtual 226, 3) := by decide +kernel
theorem dX11_even_87 : decode cX11_even 87 = .ok (.iload_n 3, 1) := by decide +kernel
theorem dX11_even_88 : decode cX11_even 88 = .ok (.idiv, 1) := by decide +kernel
theorem dX11_even_89 : decode cX11_even 89 = .ok (.iload 4, 2) := by decide +kernel
theorem dX11_even_91 : decode cX11_even 91 = .ok (.aload_n 0, 1) := by decide +kernel
theorem dX11_even_92 : decode cX11_even 92 = .ok (.iload_n 2, 1) := by decide +kernel
theorem dX11_even_93 : decode cX11_even 93 = .ok (.iconst 3, 1) := by decide +kernel
theorem dX11_even_94 : decode cX11_even 94 = .ok (.invokevirtual 226, 3) := by decide +kernel
theorem dX11_even_97 : decode cX11_even 97 = .ok (.iload_n 3, 1) := by decide +kernel
theorem dX11_even_98 : decode cX11_even 98 = .ok (.irem, 1) := by decide +kernel
theorem dX11_even_99 : decode cX11_even 99 = .ok (.if_icmp .ge 7, 3) := by decide +kernel
theorem dX11_even_102 : decode cX11_even 102 = .ok (.iconst 1, 1) := by decide +kernel
theorem dX11_even_103 : decode cX11_even 103 = .ok (.goto 4, 3) := by decide +kernel
theorem dX11_even_106 : decode cX11_even 106 = .ok (.iconst 0, 1) := by decide +kernel
theorem dX11_even_107 : decode cX11_even 107 = .ok (.invokestatic 122, 3) := by decide +kernel
theorem dX11_even_110 : decode cX11_even 110 = .ok (.iadd, 1) := by decide +kernel
theorem dX11_even_111 : decode cX11_even 111 = .ok (.istore 5, 2) := by decide +kernel
theorem dX11_even_113 : decode cX11_even 113 = .ok (.aload_n 0, 1) := by decide +kernel
theorem dX11_even_114 : decode cX11_even 114 = .ok (.iconst 1, 1) := by decide +kernel
theorem dX11_even_115 : decode cX11_even 115 = .ok (.invokevirtual 164, 3) := by decide +kernel
theorem dX11_even_118 : decode cX11_even 118 = .ok (.iload 5, 2) := by decide +kernel
theorem dX11_even_120 : decode cX11_even 120 = .ok (.invokestatic 117, 3) := by decide +kernel
theorem dX11_even_123 : decode cX11_even 123 = .ok (.ireturn, 1) := by decide +kernel
theorem dX11_wouldBe_0 : decode cX11_wouldBe 0 = .ok (.aload_n 0, 1) := by decide +kernel
theorem dX11_wouldBe_1 : decode cX11_wouldBe 1 = .ok (.iload_n 1, 1) := by decide +kernel
theorem dX11_wouldBe_2 : decode cX11_wouldBe 2 = .ok (.iload_n 2, 1) := by decide +kernel
theorem dX11_wouldBe_3 : decode cX11_wouldBe 3 = .ok (.iload_n 3, 1) := by decide +kernel
theorem dX11_wouldBe_4 : decode cX11_wouldBe 4 = .ok (.ifCond .ne 7, 3) := by decide +kernel
theorem dX11_wouldBe_7 : decode cX11_wouldBe 7 = .ok (.iconst 3, 1) := by decide +kernel
theorem dX11_wouldBe_8 : decode cX11_wouldBe 8 = .ok (.goto 8, 3) := by decide +kernel
theorem dX11_wouldBe_11 : decode cX11_wouldBe 11 = .ok (.iconst 0, 1) := by decide +kernel
theorem dX11_wouldBe_12 : decode cX11_wouldBe 12 = .ok (.iload_n 3, 1) := by decide +kernel
theorem dX11_wouldBe_13 : decode cX11_wouldBe 13 = .ok (.iadd, 1) := by decide +kernel
theorem dX11_wouldBe_14 : decode cX11_wouldBe 14 = .ok (.iconst 1, 1) := by decide +kernel
theorem dX11_wouldBe_15 : decode cX11_wouldBe 15 = .ok (.isub, 1) := by decide +kernel
theorem dX11_wouldBe_16 : decode cX11_wouldBe 16 = .ok (.invokevirtual 167, 3) := by decide +kernel
theorem dX11_wouldBe_19 : decode cX11_wouldBe 19 = .ok (.ireturn, 1) := by decide +kernel
theorem dX11_wouldAll_0 : decode cX11_wouldAll 0 = .ok (.aload_n 0, 1) := by decide +kernel
theorem dX11_wouldAll_1 : decode cX11_wouldAll 1 = .ok (.iload_n 1, 1) := by decide +kernel
theorem dX11_wouldAll_2 : decode cX11_wouldAll 2 = .ok (.iload_n 2, 1) := by decide +kernel
theorem dX11_wouldAll_3 : decode cX11_wouldAll 3 = .ok (.iconst 0, 1) := by decide +kernel
theorem dX11_wouldAll_4 : decode cX11_wouldAll 4 = .ok (.invokevirtual 338, 3) := by decide +kernel
theorem dX11_wouldAll_7 : decode cX11_wouldAll 7 = .ok (.i2l, 1) := by decide +kernel
theorem dX11_wouldAll_8 : decode cX11_wouldAll 8 = .ok (.aload_n 0, 1) := by decide +kernel
theorem dX11_wouldAll_9 : decode cX11_wouldAll 9 = .ok (.iload_n 1, 1) := by decide +kernel
theorem dX11_wouldAll_10 : decode cX11_wouldAll 10 = .ok (.iload_n 2, 1) := by decide +kernel
theorem dX11_wouldAll_11 : decode cX11_wouldAll 11 = .ok (.iconst 1, 1) := by decide +kernel
theorem dX11_wouldAll_12 : decode cX11_wouldAll 12 = .ok (.invokevirtual 338, 3) := by decide +kernel
theorem dX11_wouldAll_15 : decode cX11_wouldAll 15 = .ok (.i2l, 1) := by decide +kernel
theorem dX11_wouldAll_16 : decode cX11_wouldAll 16 = .ok (.ladd, 1) := by decide +kernel
theorem dX11_wouldAll_17 : decode cX11_wouldAll 17 = .ok (.aload_n 0, 1) := by decide +kernel
theorem dX11_wouldAll_18 : decode cX11_wouldAll 18 = .ok (.iload_n 1, 1) := by decide +kernel
theorem dX11_wouldAll_19 : decode cX11_wouldAll 19 = .ok (.iload_n 2, 1) := by decide +kernel
theorem dX11_wouldAll_20 : decode cX11_wouldAll 20 = .ok (.iconst 2, 1) := by decide +kernel
theorem dX11_wouldAll_21 : decode cX11_wouldAll 21 = .ok (.invokevirtual 338, 3) := by decide +kernel
theorem dX11_wouldAll_24 : decode cX11_wouldAll 24 = .ok (.i2l, 1) := by decide +kernel
theorem dX11_wouldAll_25 : decode cX11_wouldAll 25 = .ok (.ladd, 1) := by decide +kernel
theorem dX11_wouldAll_26 : decode cX11_wouldAll 26 = .ok (.lreturn, 1) := by decide +kernel
theorem dX11_wouldCount_0 : decode cX11_wouldCount 0 = .ok (.aload_n 0, 1) := by decide +kernel
theorem dX11_wouldCount_1 : decode cX11_wouldCount 1 = .ok (.iload_n 1, 1) := by decide +kernel
theorem dX11_wouldCount_2 : decode cX11_wouldCount 2 = .ok (.iload_n 2, 1) := by decide +kernel
theorem dX11_wouldCount_3 : decode cX11_wouldCount 3 = .ok (.iconst 0, 1) := by decide +kernel
theorem dX11_wouldCount_4 : decode cX11_wouldCount 4 = .ok (.invokevirtual 338, 3) := by decide +kernel
theorem dX11_wouldCount_7 : decode cX11_wouldCount 7 = .ok (.ifCond .le 7, 3) := by decide +kernel
theorem dX11_wouldCount_10 : decode cX11_wouldCount 10 = .ok (.iconst 1, 1) := by decide +kernel
theorem dX11_wouldCount_11 : decode cX11_wouldCount 11 = .ok (.goto 4, 3) := by decide +kernel
theorem dX11_wouldCount_14 : decode cX11_wouldCount 14 = .ok (.iconst 0, 1) := by decide +kernel
theorem dX11_wouldCount_15 : decode cX11_wouldCount 15 = .ok (.invokestatic 122, 3) := by decide +kernel
theorem dX11_wouldCount_18 : decode cX11_wouldCount 18 = .ok (.aload_n 0, 1) := by decide +kernel
theorem dX11_wouldCount_19 : decode cX11_wouldCount 19 = .ok (.iload_n 1, 1) := by decide +kernel
theorem dX11_wouldCount_20 : decode cX11_wouldCount 20 = .ok (.iload_n 2, 1) := by decide +kernel
theorem dX11_wouldCount_21 : decode cX11_wouldCount 21 = .ok (.iconst 1, 1) := by decide +kernel
theorem dX11_wouldCount_22 : decode cX11_wouldCount 22 = .ok (.invokevirtual 338, 3) := by decide +kernel
theorem dX11_wouldCount_25 : decode cX11_wouldCount 25 = .ok (.ifCond .le 7, 3) := by decide +kernel
theorem dX11_wouldCount_28 : decode cX11_wouldCount 28 = .ok (.iconst 1, 1) := by decide +kernel
theorem dX11_wouldCount_29 : decode cX11_wouldCount 29 = .ok (.goto 4, 3) := by decide +kernel
theorem dX11_wouldCount_32 : decode cX11_wouldCount 32 = .ok (.iconst 0, 1) := by decide +kernel
theorem dX11_wouldCount_33 : decode cX11_wouldCount 33 = .ok (.invokestatic 122, 3) := by decide +kernel
theorem dX11_wouldCount_36 : decode cX11_wouldCount 36 = .ok (.iadd, 1) := by decide +kernel
theorem dX11_wouldCount_37 : decode cX11_wouldCount 37 = .ok (.aload_n 0, 1) := by decide +kernel
theorem dX11_wouldCount_38 : decode cX11_wouldCount 38 = .ok (.iload_n 1, 1) := by decide +kernel
theorem dX11_wouldCount_39 : decode cX11_wouldCount 39 = .ok (.iload_n 2, 1) := by decide +kernel
theorem dX11_wouldCount_40 : decode cX11_wouldCount 40 = .ok (.iconst 2, 1) := by decide +kernel
theorem dX11_wouldCount_41 : decode cX11_wouldCount 41 = .ok (.invokevirtual 338, 3) := by decide +kernel
theorem dX11_wouldCount_44 : decode cX11_wouldCount 44 = .ok (.ifCond .le 7, 3) := by decide +kernel
theorem dX11_wouldCount_47 : decode cX11_wouldCount 47 = .ok (.iconst 1, 1) := by decide +kernel
theorem dX11_wouldCount_48 : decode cX11_wouldCount 48 = .ok (.goto 4, 3) := by decide +kernel
theorem dX11_wouldCount_51 : decode cX11_wouldCount 51 = .ok (.iconst 0, 1) := by decide +kernel
theorem dX11_wouldCount_52 : decode cX11_wouldCount 52 = .ok (.invokestatic 122, 3) := by decide +kernel
theorem dX11_wouldCount_55 : decode cX11_wouldCount 55 = .ok (.iadd, 1) := by decide +kernel
theorem dX11_wouldCount_56 : decode cX11_wouldCount 56 = .ok (.aload_n 0, 1) := by decide +kernel
theorem dX11_wouldCount_57 : decode cX11_wouldCount 57 = .ok (.iconst 5, 1) := by decide +kernel
theorem dX11_wouldCount_58 : decode cX11_wouldCount 58 = .ok (.invokevirtual 164, 3) := by decide +kernel
theorem dX11_wouldCount_61 : decode cX11_wouldCount 61 = .ok (.if_icmp .lt 7, 3) := by decide +kernel
theorem dX11_wouldCount_64 : decode cX11_wouldCount 64 = .ok (.iconst 1, 1) := by decide +kernel
theorem dX11_wouldCount_65 : decode cX11_wouldCount 65 = .ok (.goto 4, 3) := by decide +kernel
theorem dX11_wouldCount_68 : decode cX11_wouldCount 68 = .ok (.iconst 0, 1) := by decide +kernel
theorem dX11_wouldCount_69 : decode cX11_wouldCount 69 = .ok (.ireturn, 1) := by decide +kernel
theorem dX11_future_0 : decode cX11_future 0 = .ok (.aload_n 0, 1) := by decide +kernel
theorem dX11_future_1 : decode cX11_future 1 = .ok (.iload_n 1, 1) := by decide +kernel
theorem dX11_future_2 : decode cX11_future 2 = .ok (.iload_n 2, 1) := by decide +kernel
theorem dX11_future_3 : decode cX11_future 3 = .ok (.invokevirtual 236, 3) := by decide +kernel
theorem dX11_future_6 : decode cX11_future 6 = .ok (.ifCond .ne 5, 3) := by decide +kernel
theorem dX11_future_9 : decode cX11_future 9 = .ok (.iconst (-1), 1) := by decide +kernel
theorem dX11_future_10 : decode cX11_future 10 = .ok (.ireturn, 1) := by decide +kernel
theorem dX11_future_11 : decode cX11_future 11 = .ok (.aload_n 0, 1) := by decide +kernel
theorem dX11_future_12 : decode cX11_future 12 = .ok (.iload_n 1, 1) := by decide +kernel
theorem dX11_future_13 : decode cX11_future 13 = .ok (.iload_n 2, 1) := by decide +kernel
theorem dX11_future_14 : decode cX11_future 14 = .ok (.invokevirtual 341, 3) := by decide +kernel
theorem dX11_future_17 : decode cX11_future 17 = .ok (.ifCond .ne 5, 3) := by decide +kernel
theorem dX11_future_20 : decode cX11_future 20 = .ok (.iconst 0, 1) := by decide +kernel
theorem dX11_future_21 : decode cX11_future 21 = .ok (.ireturn, 1) := by decide +kernel
theorem dX11_future_22 : decode cX11_future 22 = .ok (.lconst 0, 1) := by decide +kernel
theorem dX11_future_23 : decode cX11_future 23 = .ok (.lstore_n 3, 1) := by decide +kernel
theorem dX11_future_24 : decode cX11_future 24 = .ok (.iconst 0, 1) := by decide +kernel
theorem dX11_future_25 : decode cX11_future 25 = .ok (.istore 5, 2) := by decide +kernel
theorem dX11_future_27 : decode cX11_future 27 = .ok (.iload 5, 2) := by decide +kernel
theorem dX11_future_29 : decode cX11_future 29 = .ok (.aload_n 0, 1) := by decide +kernel
theorem dX11_future_30 : decode cX11_future 30 = .ok (.bipush 7, 2) := by decide +kernel
theorem dX11_future_32 : decode cX11_future 32 = .ok (.invokevirtual 164, 3) := by decide +kernel
theorem dX11_future_35 : decode cX11_future 35 = .ok (.if_icmp .ge 33, 3) := by decide +kernel
theorem dX11_future_38 : decode cX11_future 38 = .ok (.lload_n 3, 1) := by decide +kernel
theorem dX11_future_39 : decode cX11_future 39 = .ok (.aload_n 0, 1) := by decide +kernel
theorem dX11_future_40 : decode cX11_future 40 = .ok (.iload 5, 2) := by decide +kernel
theorem dX11_future_42 : decode cX11_future 42 = .ok (.iload_n 2, 1) := by decide +kernel
theorem dX11_future_43 : decode cX11_future 43 = .ok (.invokevirtual 341, 3) := by decide +kernel
theorem dX11_future_46 : decode cX11_future 46 = .ok (.ifCond .eq 13, 3) := by decide +kernel
theorem dX11_future_49 : decode cX11_future 49 = .ok (.aload_n 0, 1) := by decide +kernel
theorem dX11_future_50 : decode cX11_future 50 = .ok (.iload 5, 2) := by decide +kernel
theorem dX11_future_52 : decode cX11_future 52 = .ok (.iload_n 2, 1) := by decide +kernel
theorem dX11_future_53 : decode cX11_future 53 = .ok (.invokevirtual 344, 3) := by decide +kernel
theorem dX11_future_56 : decode cX11_future 56 = .ok (.goto 4, 3) := by decide +kernel
theorem dX11_future_59 : decode cX11_future 59 = .ok (.lconst 0, 1) := by decide +kernel
theorem dX11_future_60 : decode cX11_future 60 = .ok (.ladd, 1) := by decide +kernel
theorem dX11_future_61 : decode cX11_future 61 = .ok (.lstore_n 3, 1) := by decide +kernel
theorem dX11_future_62 : decode cX11_future 62 = .ok (.iinc 5 1, 3) := by decide +kernel
theorem dX11_future_65 : decode cX11_future 65 = .ok (.goto (-38), 3) := by decide +kernel
theorem dX11_future_68 : decode cX11_future 68 = .ok (.aload_n 0, 1) := by decide +kernel
theorem dX11_future_69 : decode cX11_future 69 = .ok (.getfield 9, 3) := by decide +kernel
theorem dX11_future_72 : decode cX11_future 72 = .ok (.iload_n 2, 1) := by decide +kernel
theorem dX11_future_73 : decode cX11_future 73 = .ok (.iconst 0, 1) := by decide +kernel
theorem dX11_future_74 : decode cX11_future 74 = .ok (.invokestatic 40, 3) := by decide +kernel
theorem dX11_future_77 : decode cX11_future 77 = .ok (.laload, 1) := by decide +kernel
theorem dX11_future_78 : decode cX11_future 78 = .ok (.aload_n 0, 1) := by decide +kernel
theorem dX11_future_79 : decode cX11_future 79 = .ok (.getfield 9, 3) := by decide +kernel
theorem dX11_future_82 : decode cX11_future 82 = .ok (.iconst 0, 1) := by decide +kernel
theorem dX11_future_83 : decode cX11_future 83 = .ok (.laload, 1) := by decide +kernel
theorem dX11_future_84 : decode cX11_future 84 = .ok (.lmul, 1) := by decide +kernel
theorem dX11_future_85 : decode cX11_future 85 = .ok (.ldc2_w 174, 3) := by decide +kernel
theorem dX11_future_88 : decode cX11_future 88 = .ok (.ldiv, 1) := by decide +kernel
theorem dX11_future_89 : decode cX11_future 89 = .ok (.aload_n 0, 1) := by decide +kernel
theorem dX11_future_90 : decode cX11_future 90 = .ok (.iload_n 1, 1) := by decide +kernel
theorem dX11_future_91 : decode cX11_future 91 = .ok (.iload_n 2, 1) := by decide +kernel
theorem dX11_future_92 : decode cX11_future 92 = .ok (.invokevirtual 344, 3) := by decide +kernel
theorem dX11_future_95 : decode cX11_future 95 = .ok (.lmul, 1) := by decide +kernel
theorem dX11_future_96 : decode cX11_future 96 = .ok (.lload_n 3, 1) := by decide +kernel
theorem dX11_future_97 : decode cX11_future 97 = .ok (.ldiv, 1) := by decide +kernel
theorem dX11_future_98 : decode cX11_future 98 = .ok (.l2i, 1) := by decide +kernel
theorem dX11_future_99 : decode cX11_future 99 = .ok (.ireturn, 1) := by decide +kernel
theorem dX11_likely_0 : decode cX11_likely 0 = .ok (.aload_n 0, 1) := by decide +kernel
theorem dX11_likely_1 : decode cX11_likely 1 = .ok (.iload_n 1, 1) := by decide +kernel
theorem dX11_likely_2 : decode cX11_likely 2 = .ok (.invokevirtual 59, 3) := by decide +kernel
theorem dX11_likely_5 : decode cX11_likely 5 = .ok (.ifCond .ne 7, 3) := by decide +kernel
theorem dX11_likely_8 : decode cX11_likely 8 = .ok (.ldc2_w 268, 3) := by decide +kernel
theorem dX11_likely_11 : decode cX11_likely 11 = .ok (.lreturn, 1) := by decide +kernel
theorem dX11_likely_12 : decode cX11_likely 12 = .ok (.dconst 0, 1) := by decide +kernel
theorem dX11_likely_13 : decode cX11_likely 13 = .ok (.dstore_n 2, 1) := by decide +kernel
theorem dX11_likely_14 : decode cX11_likely 14 = .ok (.iconst 0, 1) := by decide +kernel
theorem dX11_likely_15 : decode cX11_likely 15 = .ok (.istore 4, 2) := by decide +kernel
theorem dX11_likely_17 : decode cX11_likely 17 = .ok (.iload 4, 2) := by decide +kernel
theorem dX11_likely_19 : decode cX11_likely 19 = .ok (.aload_n 0, 1) := by decide +kernel
theorem dX11_likely_20 : decode cX11_likely 20 = .ok (.bipush 8, 2) := by decide +kernel
theorem dX11_likely_22 : decode cX11_likely 22 = .ok (.invokevirtual 164, 3) := by decide +kernel
theorem dX11_likely_25 : decode cX11_likely 25 = .ok (.if_icmp .ge 69, 3) := by decide +kernel
theorem dX11_likely_28 : decode cX11_likely 28 = .ok (.aload_n 0, 1) := by decide +kernel
theorem dX11_likely_29 : decode cX11_likely 29 = .ok (.iload 4, 2) := by decide +kernel
theorem dX11_likely_31 : decode cX11_likely 31 = .ok (.invokevirtual 199, 3) := by decide +kernel
theorem dX11_likely_34 : decode cX11_likely 34 = .ok (.ifCond .eq 54, 3) := by decide +kernel
theorem dX11_likely_37 : decode cX11_likely 37 = .ok (.aload_n 0, 1) := by decide +kernel
theorem dX11_likely_38 : decode cX11_likely 38 = .ok (.iload 4, 2) := by decide +kernel
theorem dX11_likely_40 : decode cX11_likely 40 = .ok (.iconst 1, 1) := by decide +kernel
theorem dX11_likely_41 : decode cX11_likely 41 = .ok (.invokevirtual 196, 3) := by decide +kernel
theorem dX11_likely_44 : decode cX11_likely 44 = .ok (.iload_n 1, 1) := by decide +kernel
theorem dX11_likely_45 : decode cX11_likely 45 = .ok (.if_icmp .eq 6, 3) := by decide +kernel
theorem dX11_likely_48 : decode cX11_likely 48 = .ok (.goto 40, 3) := by decide +kernel
theorem dX11_likely_51 : decode cX11_likely 51 = .ok (.aload_n 0, 1) := by decide +kernel
theorem dX11_likely_52 : decode cX11_likely 52 = .ok (.aload_n 0, 1) := by decide +kernel
theorem dX11_likely_53 : decode cX11_likely 53 = .ok (.iload 4, 2) := by decide +kernel
theorem dX11_likely_55 : decode cX11_likely 55 = .ok (.iconst 0, 1) := by decide +kernel
theorem dX11_likely_56 : decode cX11_likely 56 = .ok (.invokevirtual 196, 3) := by decide +kernel
theorem dX11_likely_59 : decode cX11_likely 59 = .ok (.invokevirtual 309, 3) := by decide +kernel
theorem dX11_likely_62 : decode cX11_likely 62 = .ok (.dstore 5, 2) := by decide +kernel
theorem dX11_likely_64 : decode cX11_likely 64 = .ok (.dload_n 2, 1) := by decide +kernel
theorem dX11_likely_65 : decode cX11_likely 65 = .ok (.aload_n 0, 1) := by decide +kernel
theorem dX11_likely_66 : decode cX11_likely 66 = .ok (.iload 4, 2) := by decide +kernel
theorem dX11_likely_68 : decode cX11_likely 68 = .ok (.invokevirtual 214, 3) := by decide +kernel
theorem dX11_likely_71 : decode cX11_likely 71 = .ok (.i2d, 1) := by decide +kernel
theorem dX11_likely_72 : decode cX11_likely 72 = .ok (.dload 5, 2) := by decide +kernel
theorem dX11_likely_74 : decode cX11_likely 74 = .ok (.dconst 0, 1) := by decide +kernel
theorem dX11_likely_75 : decode cX11_likely 75 = .ok (.dcmp .g, 1) := by decide +kernel
theorem dX11_likely_76 : decode cX11_likely 76 = .ok (.ifCond .ge 7, 3) := by decide +kernel
theorem dX11_likely_79 : decode cX11_likely 79 = .ok (.dconst 1, 1) := by decide +kernel
theorem dX11_likely_80 : decode cX11_likely 80 = .ok (.goto 5, 3) := by decide +kernel
theorem dX11_likely_83 : decode cX11_likely 83 = .ok (.dload 5, 2) := by decide +kernel
theorem dX11_likely_85 : decode cX11_likely 85 = .ok (.dmul, 1) := by decide +kernel
theorem dX11_likely_86 : decode cX11_likely 86 = .ok (.dadd, 1) := by decide +kernel
theorem dX11_likely_87 : decode cX11_likely 87 = .ok (.dstore_n 2, 1) := by decide +kernel
theorem dX11_likely_88 : decode cX11_likely 88 = .ok (.iinc 4 1, 3) := by decide +kernel
theorem dX11_likely_91 : decode cX11_likely 91 = .ok (.goto (-74), 3) := by decide +kernel
theorem dX11_likely_94 : decode cX11_likely 94 = .ok (.dload_n 2, 1) := by decide +kernel
theorem dX11_likely_95 : decode cX11_likely 95 = .ok (.invokestatic 276, 3) := by decide +kernel
theorem dX11_likely_98 : decode cX11_likely 98 = .ok (.lreturn, 1) := by decide +kernel
theorem dX11_root_0 : decode cX11_root 0 = .ok (.aload_n 0, 1) := by decide +kernel
theorem dX11_root_1 : decode cX11_root 1 = .ok (.iload_n 1, 1) := by decide +kernel
theorem dX11_root_2 : decode cX11_root 2 = .ok (.invokevirtual 248, 3) := by decide +kernel
theorem dX11_root_5 : decode cX11_root 5 = .ok (.ifCond .eq 13, 3) := by decide +kernel
theorem dX11_root_8 : decode cX11_root 8 = .ok (.iload_n 2, 1) := by decide +kernel
theorem dX11_root_9 : decode cX11_root 9 = .ok (.i2l, 1) := by decide +kernel
theorem dX11_root_10 : decode cX11_root 10 = .ok (.lconst 0, 1) := by decide +kernel
theorem dX11_root_11 : decode cX11_root 11 = .ok (.lconst 1, 1) := by decide +kernel
theorem dX11_root_12 : decode cX11_root 12 = .ok (.invokestatic 51, 3) := by decide +kernel
theorem dX11_root_15 : decode cX11_root 15 = .ok (.ifCond .ne 5, 3) := by decide +kernel
theorem dX11_root_18 : decode cX11_root 18 = .ok (.iconst (-1), 1) := by decide +kernel
theorem dX11_root_19 : decode cX11_root 19 = .ok (.ireturn, 1) := by decide +kernel
theorem dX11_root_20 : decode cX11_root 20 = .ok (.iconst 0, 1) := by decide +kernel
theorem dX11_root_21 : decode cX11_root 21 = .ok (.istore_n 3, 1) := by decide +kernel
theorem dX11_root_22 : decode cX11_root 22 = .ok (.iload_n 1, 1) := by decide +kernel
theorem dX11_root_23 : decode cX11_root 23 = .ok (.istore 4, 2) := by decide +kernel
theorem dX11_root_25 : decode cX11_root 25 = .ok (.aload_n 0, 1) := by decide +kernel
theorem dX11_root_26 : decode cX11_root 26 = .ok (.iload 4, 2) := by decide +kernel
theorem dX11_root_28 : decode cX11_root 28 = .ok (.bipush 8, 2) := by decide +kernel
theorem dX11_root_30 : decode cX11_root 30 = .ok (.invokevirtual 196, 3) := by decide +kernel
theorem dX11_root_33 : decode cX11_root 33 = .ok (.iconst (-1), 1) := by decide +kernel
theorem dX11_root_34 : decode cX11_root 34 = .ok (.if_icmp .eq 19, 3) := by decide +kernel
theorem dX11_root_37 : decode cX11_root 37 = .ok (.aload_n 0, 1) := by decide +kernel
theorem dX11_root_38 : decode cX11_root 38 = .ok (.iload 4, 2) := by decide +kernel
theorem dX11_root_40 : decode cX11_root 40 = .ok (.bipush 8, 2) := by decide +kernel
theorem dX11_root_42 : decode cX11_root 42 = .ok (.invokevirtual 196, 3) := by decide +kernel
theorem dX11_root_45 : decode cX11_root 45 = .ok (.istore 4, 2) := by decide +kernel
theorem dX11_root_47 : decode cX11_root 47 = .ok (.iinc 3 1, 3) := by decide +kernel
theorem dX11_root_50 : decode cX11_root 50 = .ok (.goto (-25), 3) := by decide +kernel
theorem dX11_root_53 : decode cX11_root 53 = .ok (.iload_n 2, 1) := by decide +kernel
theorem dX11_root_54 : decode cX11_root 54 = .ok (.ifCond .ne 8, 3) := by decide +kernel
theorem dX11_root_57 : decode cX11_root 57 = .ok (.iload 4, 2) := by decide +kernel
theorem dX11_root_59 : decode cX11_root 59 = .ok (.goto 4, 3) := by decide +kernel
theorem dX11_root_62 : decode cX11_root 62 = .ok (.iload_n 3, 1) := by decide +kernel
theorem dX11_root_63 : decode cX11_root 63 = .ok (.ireturn, 1) := by decide +kernel
theorem dX11_median_0 : decode cX11_median 0 = .ok (.aload_n 0, 1) := by decide +kernel
theorem dX11_median_1 : decode cX11_median 1 = .ok (.iload_n 1, 1) := by decide +kernel
theorem dX11_median_2 : decode cX11_median 2 = .ok (.invokevirtual 59, 3) := by decide +kernel
theorem dX11_median_5 : decode cX11_median 5 = .ok (.ifCond .ne 5, 3) := by decide +kernel
theorem dX11_median_8 : decode cX11_median 8 = .ok (.iconst (-1), 1) := by decide +kernel
theorem dX11_median_9 : decode cX11_median 9 = .ok (.ireturn, 1) := by decide +kernel
theorem dX11_median_10 : decode cX11_median 10 = .ok (.iconst 0, 1) := by decide +kernel
theorem dX11_median_11 : decode cX11_median 11 = .ok (.istore_n 2, 1) := by decide +kernel
theorem dX11_median_12 : decode cX11_median 12 = .ok (.iconst 0, 1) := by decide +kernel
theorem dX11_median_13 : decode cX11_median 13 = .ok (.istore_n 3, 1) := by decide +kernel
theorem dX11_median_14 : decode cX11_median 14 = .ok (.iload_n 3, 1) := by decide +kernel
theorem dX11_median_15 : decode cX11_median 15 = .ok (.aload_n 0, 1) := by decide +kernel
theorem dX11_median_16 : decode cX11_median 16 = .ok (.bipush 7, 2) := by decide +kernel
theorem dX11_median_18 : decode cX11_median 18 = .ok (.invokevirtual 164, 3) := by decide +kernel
theorem dX11_median_21 : decode cX11_median 21 = .ok (.if_icmp .ge 19, 3) := by decide +kernel
theorem dX11_median_24 : decode cX11_median 24 = .ok (.iload_n 2, 1) := by decide +kernel
theorem dX11_median_25 : decode cX11_median 25 = .ok (.aload_n 0, 1) := by decide +kernel
theorem dX11_median_26 : decode cX11_median 26 = .ok (.iload_n 3, 1) := by decide +kernel
theorem dX11_median_27 : decode cX11_median 27 = .ok (.iload_n 1, 1) := by decide +kernel
theorem dX11_median_28 : decode cX11_median 28 = .ok (.iconst 4, 1) := by decide +kernel
theorem dX11_median_29 : decode cX11_median 29 = .ok (.invokevirtual 167, 3) := by decide +kernel
theorem dX11_median_32 : decode cX11_median 32 = .ok (.iadd, 1) := by decide +kernel
theorem dX11_median_33 : decode cX11_median 33 = .ok (.istore_n 2, 1) := by decide +kernel
theorem dX11_median_34 : decode cX11_median 34 = .ok (.iinc 3 1, 3) := by decide +kernel
theorem dX11_median_37 : decode cX11_median 37 = .ok (.goto (-23), 3) := by decide +kernel
theorem dX11_median_40 : decode cX11_median 40 = .ok (.iconst 0, 1) := by decide +kernel
theorem dX11_median_41 : decode cX11_median 41 = .ok (.istore_n 3, 1) := by decide +kernel
theorem dX11_median_42 : decode cX11_median 42 = .ok (.iload_n 3, 1) := by decide +kernel
theorem dX11_median_43 : decode cX11_median 43 = .ok (.aload_n 0, 1) := by decide +kernel
theorem dX11_median_44 : decode cX11_median 44 = .ok (.bipush 7, 2) := by decide +kernel
theorem dX11_median_46 : decode cX11_median 46 = .ok (.invokevirtual 164, 3) := by decide +kernel
theorem dX11_median_49 : decode cX11_median 49 = .ok (.if_icmp .ge 138, 3) := by decide +kernel
theorem dX11_median_52 : decode cX11_median 52 = .ok (.iconst 0, 1) := by decide +kernel
theorem dX11_median_53 : decode cX11_median 53 = .ok (.istore 4, 2) := by decide +kernel
theorem dX11_median_55 : decode cX11_median 55 = .ok (.iconst 0, 1) := by decide +kernel
theorem dX11_median_56 : decode cX11_median 56 = .ok (.istore 5, 2) := by decide +kernel
theorem dX11_median_58 : decode cX11_median 58 = .ok (.iload 5, 2) := by decide +kernel
theorem dX11_median_60 : decode cX11_median 60 = .ok (.aload_n 0, 1) := by decide +kernel
theorem dX11_median_61 : decode cX11_median 61 = .ok (.bipush 7, 2) := by decide +kernel
theorem dX11_median_63 : decode cX11_median 63 = .ok (.invokevirtual 164, 3) := by decide +kernel
theorem dX11_median_66 : decode cX11_median 66 = .ok (.if_icmp .ge 86, 3) := by decide +kernel
theorem dX11_median_69 : decode cX11_median 69 = .ok (.aload_n 0, 1) := by decide +kernel
theorem dX11_median_70 : decode cX11_median 70 = .ok (.iload 5, 2) := by decide +kernel
theorem dX11_median_72 : decode cX11_median 72 = .ok (.iload_n 1, 1) := by decide +kernel
theorem dX11_median_73 : decode cX11_median 73 = .ok (.invokevirtual 170, 3) := by decide +kernel
theorem dX11_median_76 : decode cX11_median 76 = .ok (.aload_n 0, 1) := by decide +kernel
theorem dX11_median_77 : decode cX11_median 77 = .ok (.iload_n 3, 1) := by decide +kernel
theorem dX11_median_78 : decode cX11_median 78 = .ok (.iload_n 1, 1) := by decide +kernel
theorem dX11_median_79 : decode cX11_median 79 = .ok (.invokevirtual 170, 3) := by decide +kernel
theorem dX11_median_82 : decode cX11_median 82 = .ok (.lcmp, 1) := by decide +kernel
theorem dX11_median_83 : decode cX11_median 83 = .ok (.ifCond .lt 26, 3) := by decide +kernel
theorem dX11_median_86 : decode cX11_median 86 = .ok (.aload_n 0, 1) := by decide +kernel
theorem dX11_median_87 : decode cX11_median 87 = .ok (.iload 5, 2) := by decide +kernel
theorem dX11_median_89 : decode cX11_median 89 = .ok (.iload_n 1, 1) := by decide +kernel
theorem dX11_median_90 : decode cX11_median 90 = .ok (.invokevirtual 170, 3) := by decide +kernel
theorem dX11_median_93 : decode cX11_median 93 = .ok (.aload_n 0, 1) := by decide +kernel
theorem dX11_median_94 : decode cX11_median 94 = .ok (.iload_n 3, 1) := by decide +kernel
theorem dX11_median_95 : decode cX11_median 95 = .ok (.iload_n 1, 1) := by decide +kernel
theorem dX11_median_96 : decode cX11_median 96 = .ok (.invokevirtual 170, 3) := by decide +kernel
theorem dX11_median_99 : decode cX11_median 99 = .ok (.lcmp, 1) := by decide +kernel
theorem dX11_median_100 : decode cX11_median 100 = .ok (.ifCond .ne 13, 3) := by decide +kernel
theorem dX11_median_103 : decode cX11_median 103 = .ok (.iload 5, 2) := by decide +kernel
theorem dX11_median_105 : decode cX11_median 105 = .ok (.iload_n 3, 1) := by decide +kernel
theorem dX11_median_106 : decode cX11_median 106 = .ok (.if_icmp .ge 7, 3) := by decide +kernel
theorem dX11_median_109 : decode cX11_median 109 = .ok (.iconst 1, 1) := by decide +kernel
theorem dX11_median_110 : decode cX11_median 110 = .ok (.goto 4, 3) := by decide +kernel
theorem dX11_median_113 : decode cX11_median 113 = .ok (.iconst 0, 1) := by decide +kernel
theorem dX11_median_114 : decode cX11_median 114 = .ok (.istore 6, 2) := by decide +kernel
theorem dX11_median_116 : decode cX11_median 116 = .ok (.iload 4, 2) := by decide +kernel
theorem dX11_median_118 : decode cX11_median 118 = .ok (.aload_n 0, 1) := by decide +kernel
theorem dX11_median_119 : decode cX11_median 119 = .ok (.iload 5, 2) := by decide +kernel
theorem dX11_median_121 : decode cX11_median 121 = .ok (.iload_n 1, 1) := by decide +kernel
theorem dX11_median_122 : decode cX11_median 122 = .ok (.iconst 4, 1) := by decide +kernel
theorem dX11_median_123 : decode cX11_median 123 = .ok (.invokevirtual 167, 3) := by decide +kernel
theorem dX11_median_126 : decode cX11_median 126 = .ok (.iconst 1, 1) := by decide +kernel
theorem dX11_median_127 : decode cX11_median 127 = .ok (.if_icmp .ne 12, 3) := by decide +kernel
theorem dX11_median_130 : decode cX11_median 130 = .ok (.iload 6, 2) := by decide +kernel
theorem dX11_median_132 : decode cX11_median 132 = .ok (.ifCond .eq 7, 3) := by decide +kernel
theorem dX11_median_135 : decode cX11_median 135 = .ok (.iconst 1, 1) := by decide +kernel
theorem dX11_median_136 : decode cX11_median 136 = .ok (.goto 4, 3) := by decide +kernel
theorem dX11_median_139 : decode cX11_median 139 = .ok (.iconst 0, 1) := by decide +kernel
theorem dX11_median_140 : decode cX11_median 140 = .ok (.invokestatic 122, 3) := by decide +kernel
theorem dX11_median_143 : decode cX11_median 143 = .ok (.iadd, 1) := by decide +kernel
theorem dX11_median_144 : decode cX11_median 144 = .ok (.istore 4, 2) := by decide +kernel
theorem dX11_median_146 : decode cX11_median 146 = .ok (.iinc 5 1, 3) := by decide +kernel
theorem dX11_median_149 : decode cX11_median 149 = .ok (.goto (-91), 3) := by decide +kernel
theorem dX11_median_152 : decode cX11_median 152 = .ok (.aload_n 0, 1) := by decide +kernel
theorem dX11_median_153 : decode cX11_median 153 = .ok (.iload_n 3, 1) := by decide +kernel
theorem dX11_median_154 : decode cX11_median 154 = .ok (.iload_n 1, 1) := by decide +kernel
theorem dX11_median_155 : decode cX11_median 155 = .ok (.iconst 4, 1) := by decide +kernel
theorem dX11_median_156 : decode cX11_median 156 = .ok (.invokevirtual 167, 3) := by decide +kernel
theorem dX11_median_159 : decode cX11_median 159 = .ok (.iconst 1, 1) := by decide +kernel
theorem dX11_median_160 : decode cX11_median 160 = .ok (.if_icmp .ne 21, 3) := by decide +kernel
theorem dX11_median_163 : decode cX11_median 163 = .ok (.iload 4, 2) := by decide +kernel
theorem dX11_median_165 : decode cX11_median 165 = .ok (.iload_n 2, 1) := by decide +kernel
theorem dX11_median_166 : decode cX11_median 166 = .ok (.iconst 1, 1) := by decide +kernel
theorem dX11_median_167 : decode cX11_median 167 = .ok (.isub, 1) := by decide +kernel
theorem dX11_median_168 : decode cX11_median 168 = .ok (.iconst 2, 1) := by decide +kernel
theorem dX11_median_169 : decode cX11_median 169 = .ok (.idiv, 1) := by decide +kernel
theorem dX11_median_170 : decode cX11_median 170 = .ok (.if_icmp .ne 11, 3) := by decide +kernel
theorem dX11_median_173 : decode cX11_median 173 = .ok (.aload_n 0, 1) := by decide +kernel
theorem dX11_median_174 : decode cX11_median 174 = .ok (.iload_n 3, 1) := by decide +kernel
theorem dX11_median_175 : decode cX11_median 175 = .ok (.iload_n 1, 1) := by decide +kernel
theorem dX11_median_176 : decode cX11_median 176 = .ok (.invokevirtual 170, 3) := by decide +kernel
theorem dX11_median_179 : decode cX11_median 179 = .ok (.l2i, 1) := by decide +kernel
theorem dX11_median_180 : decode cX11_median 180 = .ok (.ireturn, 1) := by decide +kernel
theorem dX11_median_181 : decode cX11_median 181 = .ok (.iinc 3 1, 3) := by decide +kernel
theorem dX11_median_184 : decode cX11_median 184 = .ok (.goto (-142), 3) := by decide +kernel
theorem dX11_median_187 : decode cX11_median 187 = .ok (.bipush (-2), 2) := by decide +kernel
theorem dX11_median_189 : decode cX11_median 189 = .ok (.ireturn, 1) := by decide +kernel
theorem dX11_rush_0 : decode cX11_rush 0 = .ok (.aload_n 0, 1) := by decide +kernel
theorem dX11_rush_1 : decode cX11_rush 1 = .ok (.iload_n 1, 1) := by decide +kernel
theorem dX11_rush_2 : decode cX11_rush 2 = .ok (.iload_n 2, 1) := by decide +kernel
theorem dX11_rush_3 : decode cX11_rush 3 = .ok (.invokevirtual 236, 3) := by decide +kernel
theorem dX11_rush_6 : decode cX11_rush 6 = .ok (.ifCond .eq 10, 3) := by decide +kernel
theorem dX11_rush_9 : decode cX11_rush 9 = .ok (.iload_n 3, 1) := by decide +kernel
theorem dX11_rush_10 : decode cX11_rush 10 = .ok (.invokestatic 239, 3) := by decide +kernel
theorem dX11_rush_13 : decode cX11_rush 13 = .ok (.ifCond .ne 5, 3) := by decide +kernel
theorem dX11_rush_16 : decode cX11_rush 16 = .ok (.iconst (-1), 1) := by decide +kernel
theorem dX11_rush_17 : decode cX11_rush 17 = .ok (.ireturn, 1) := by decide +kernel
theorem dX11_rush_18 : decode cX11_rush 18 = .ok (.aload_n 0, 1) := by decide +kernel
theorem dX11_rush_19 : decode cX11_rush 19 = .ok (.getfield 9, 3) := by decide +kernel
theorem dX11_rush_22 : decode cX11_rush 22 = .ok (.iconst 0, 1) := by decide +kernel
theorem dX11_rush_23 : decode cX11_rush 23 = .ok (.aload_n 0, 1) := by decide +kernel
theorem dX11_rush_24 : decode cX11_rush 24 = .ok (.getfield 16, 3) := by decide +kernel
theorem dX11_rush_27 : decode cX11_rush 27 = .ok (.iconst 0, 1) := by decide +kernel
theorem dX11_rush_28 : decode cX11_rush 28 = .ok (.invokestatic 154, 3) := by decide +kernel
theorem dX11_rush_31 : decode cX11_rush 31 = .ok (.iconst 0, 1) := by decide +kernel
theorem dX11_rush_32 : decode cX11_rush 32 = .ok (.istore 4, 2) := by decide +kernel
theorem dX11_rush_34 : decode cX11_rush 34 = .ok (.iconst 0, 1) := by decide +kernel
theorem dX11_rush_35 : decode cX11_rush 35 = .ok (.istore 5, 2) := by decide +kernel
theorem dX11_rush_37 : decode cX11_rush 37 = .ok (.iload 5, 2) := by decide +kernel
theorem dX11_rush_39 : decode cX11_rush 39 = .ok (.iload_n 1, 1) := by decide +kernel
theorem dX11_rush_40 : decode cX11_rush 40 = .ok (.if_icmp .gt 33, 3) := by decide +kernel
theorem dX11_rush_43 : decode cX11_rush 43 = .ok (.iconst 0, 1) := by decide +kernel
theorem dX11_rush_44 : decode cX11_rush 44 = .ok (.aload_n 0, 1) := by decide +kernel
theorem dX11_rush_45 : decode cX11_rush 45 = .ok (.iload 5, 2) := by decide +kernel
theorem dX11_rush_47 : decode cX11_rush 47 = .ok (.iload_n 2, 1) := by decide +kernel
theorem dX11_rush_48 : decode cX11_rush 48 = .ok (.iload_n 3, 1) := by decide +kernel
theorem dX11_rush_49 : decode cX11_rush 49 = .ok (.invokevirtual 229, 3) := by decide +kernel
theorem dX11_rush_52 : decode cX11_rush 52 = .ok (.invokestatic 347, 3) := by decide +kernel
theorem dX11_rush_55 : decode cX11_rush 55 = .ok (.istore 4, 2) := by decide +kernel
theorem dX11_rush_57 : decode cX11_rush 57 = .ok (.aload_n 0, 1) := by decide +kernel
theorem dX11_rush_58 : decode cX11_rush 58 = .ok (.iload 5, 2) := by decide +kernel
theorem dX11_rush_60 : decode cX11_rush 60 = .ok (.iload_n 2, 1) := by decide +kernel
theorem dX11_rush_61 : decode cX11_rush 61 = .ok (.iload_n 3, 1) := by decide +kernel
theorem dX11_rush_62 : decode cX11_rush 62 = .ok (.invokevirtual 245, 3) := by decide +kernel
theorem dX11_rush_65 : decode cX11_rush 65 = .ok (.istore 6, 2) := by decide +kernel
theorem dX11_rush_67 : decode cX11_rush 67 = .ok (.iinc 5 1, 3) := by decide +kernel
theorem dX11_rush_70 : decode cX11_rush 70 = .ok (.goto (-33), 3) := by decide +kernel
theorem dX11_rush_73 : decode cX11_rush 73 = .ok (.aload_n 0, 1) := by decide +kernel
theorem dX11_rush_74 : decode cX11_rush 74 = .ok (.getfield 16, 3) := by decide +kernel
theorem dX11_rush_77 : decode cX11_rush 77 = .ok (.iconst 0, 1) := by decide +kernel
theorem dX11_rush_78 : decode cX11_rush 78 = .ok (.aload_n 0, 1) := by decide +kernel
theorem dX11_rush_79 : decode cX11_rush 79 = .ok (.getfield 9, 3) := by decide +kernel
theorem dX11_rush_82 : decode cX11_rush 82 = .ok (.iconst 0, 1) := by decide +kernel
theorem dX11_rush_83 : decode cX11_rush 83 = .ok (.invokestatic 154, 3) := by decide +kernel
theorem dX11_rush_86 : decode cX11_rush 86 = .ok (.iload 4, 2) := by decide +kernel
theorem dX11_rush_88 : decode cX11_rush 88 = .ok (.ireturn, 1) := by decide +kernel
theorem dX11_stood_0 : decode cX11_stood 0 = .ok (.aload_n 0, 1) := by decide +kernel
theorem dX11_stood_1 : decode cX11_stood 1 = .ok (.iload_n 1, 1) := by decide +kernel
theorem dX11_stood_2 : decode cX11_stood 2 = .ok (.invokevirtual 59, 3) := by decide +kernel
theorem dX11_stood_5 : decode cX11_stood 5 = .ok (.ifCond .eq 21, 3) := by decide +kernel
theorem dX11_stood_8 : decode cX11_stood 8 = .ok (.iload_n 2, 1) := by decide +kernel
theorem dX11_stood_9 : decode cX11_stood 9 = .ok (.i2l, 1) := by decide +kernel
theorem dX11_stood_10 : decode cX11_stood 10 = .ok (.lconst 0, 1) := by decide +kernel
theorem dX11_stood_11 : decode cX11_stood 11 = .ok (.aload_n 0, 1) := by decide +kernel
theorem dX11_stood_12 : decode cX11_stood 12 = .ok (.getfield 9, 3) := by decide +kernel
theorem dX11_stood_15 : decode cX11_stood 15 = .ok (.bipush 9, 2) := by decide +kernel
theorem dX11_stood_17 : decode cX11_stood 17 = .ok (.laload, 1) := by decide +kernel
theorem dX11_stood_18 : decode cX11_stood 18 = .ok (.lconst 1, 1) := by decide +kernel
theorem dX11_stood_19 : decode cX11_stood 19 = .ok (.lsub, 1) := by decide +kernel
theorem dX11_stood_20 : decode cX11_stood 20 = .ok (.invokestatic 51, 3) := by decide +kernel
theorem dX11_stood_23 : decode cX11_stood 23 = .ok (.ifCond .ne 5, 3) := by decide +kernel
theorem dX11_stood_26 : decode cX11_stood 26 = .ok (.iconst (-1), 1) := by decide +kernel
theorem dX11_stood_27 : decode cX11_stood 27 = .ok (.ireturn, 1) := by decide +kernel
theorem dX11_stood_28 : decode cX11_stood 28 = .ok (.lconst 0, 1) := by decide +kernel
theorem dX11_stood_29 : decode cX11_stood 29 = .ok (.lstore_n 3, 1) := by decide +kernel
theorem dX11_stood_30 : decode cX11_stood 30 = .ok (.iconst 0, 1) := by decide +kernel
theorem dX11_stood_31 : decode cX11_stood 31 = .ok (.istore 5, 2) := by decide +kernel
theorem dX11_stood_33 : decode cX11_stood 33 = .ok (.iload 5, 2) := by decide +kernel
theorem dX11_stood_35 : decode cX11_stood 35 = .ok (.aload_n 0, 1) := by decide +kernel
theorem dX11_stood_36 : decode cX11_stood 36 = .ok (.bipush 8, 2) := by decide +kernel
theorem dX11_stood_38 : decode cX11_stood 38 = .ok (.invokevirtual 164, 3) := by decide +kernel
theorem dX11_stood_41 : decode cX11_stood 41 = .ok (.if_icmp .ge 79, 3) := by decide +kernel
theorem dX11_stood_44 : decode cX11_stood 44 = .ok (.aload_n 0, 1) := by decide +kernel
theorem dX11_stood_45 : decode cX11_stood 45 = .ok (.iload 5, 2) := by decide +kernel
theorem dX11_stood_47 : decode cX11_stood 47 = .ok (.iconst 1, 1) := by decide +kernel
theorem dX11_stood_48 : decode cX11_stood 48 = .ok (.invokevirtual 196, 3) := by decide +kernel
theorem dX11_stood_51 : decode cX11_stood 51 = .ok (.iload_n 1, 1) := by decide +kernel
theorem dX11_stood_52 : decode cX11_stood 52 = .ok (.if_icmp .ne 39, 3) := by decide +kernel
theorem dX11_stood_55 : decode cX11_stood 55 = .ok (.aload_n 0, 1) := by decide +kernel
theorem dX11_stood_56 : decode cX11_stood 56 = .ok (.iload 5, 2) := by decide +kernel
theorem dX11_stood_58 : decode cX11_stood 58 = .ok (.iconst 3, 1) := by decide +kernel
theorem dX11_stood_59 : decode cX11_stood 59 = .ok (.invokevirtual 196, 3) := by decide +kernel
theorem dX11_stood_62 : decode cX11_stood 62 = .ok (.iload_n 2, 1) := by decide +kernel
theorem dX11_stood_63 : decode cX11_stood 63 = .ok (.if_icmp .gt 28, 3) := by decide +kernel
theorem dX11_stood_66 : decode cX11_stood 66 = .ok (.aload_n 0, 1) := by decide +kernel
theorem dX11_stood_67 : decode cX11_stood 67 = .ok (.iload 5, 2) := by decide +kernel
theorem dX11_stood_69 : decode cX11_stood 69 = .ok (.invokevirtual 199, 3) := by decide +kernel
theorem dX11_stood_72 : decode cX11_stood 72 = .ok (.ifCond .ne 15, 3) := by decide +kernel
theorem dX11_stood_75 : decode cX11_stood 75 = .ok (.aload_n 0, 1) := by decide +kernel
theorem dX11_stood_76 : decode cX11_stood 76 = .ok (.iload 5, 2) := by decide +kernel
theorem dX11_stood_78 : decode cX11_stood 78 = .ok (.bipush 7, 2) := by decide +kernel
theorem dX11_stood_80 : decode cX11_stood 80 = .ok (.invokevirtual 196, 3) := by decide +kernel
theorem dX11_stood_83 : decode cX11_stood 83 = .ok (.iload_n 2, 1) := by decide +kernel
theorem dX11_stood_84 : decode cX11_stood 84 = .ok (.if_icmp .le 7, 3) := by decide +kernel
theorem dX11_stood_87 : decode cX11_stood 87 = .ok (.iconst 1, 1) := by decide +kernel
theorem dX11_stood_88 : decode cX11_stood 88 = .ok (.goto 4, 3) := by decide +kernel
theorem dX11_stood_91 : decode cX11_stood 91 = .ok (.iconst 0, 1) := by decide +kernel
theorem dX11_stood_92 : decode cX11_stood 92 = .ok (.istore 6, 2) := by decide +kernel
theorem dX11_stood_94 : decode cX11_stood 94 = .ok (.lload_n 3, 1) := by decide +kernel
theorem dX11_stood_95 : decode cX11_stood 95 = .ok (.iload 6, 2) := by decide +kernel
theorem dX11_stood_97 : decode cX11_stood 97 = .ok (.ifCond .eq 14, 3) := by decide +kernel
theorem dX11_stood_100 : decode cX11_stood 100 = .ok (.aload_n 0, 1) := by decide +kernel
theorem dX11_stood_101 : decode cX11_stood 101 = .ok (.iload 5, 2) := by decide +kernel
theorem dX11_stood_103 : decode cX11_stood 103 = .ok (.iconst 2, 1) := by decide +kernel
theorem dX11_stood_104 : decode cX11_stood 104 = .ok (.invokevirtual 196, 3) := by decide +kernel
theorem dX11_stood_107 : decode cX11_stood 107 = .ok (.i2l, 1) := by decide +kernel
theorem dX11_stood_108 : decode cX11_stood 108 = .ok (.goto 4, 3) := by decide +kernel
theorem dX11_stood_111 : decode cX11_stood 111 = .ok (.lconst 0, 1) := by decide +kernel
theorem dX11_stood_112 : decode cX11_stood 112 = .ok (.ladd, 1) := by decide +kernel
theorem dX11_stood_113 : decode cX11_stood 113 = .ok (.lstore_n 3, 1) := by decide +kernel
theorem dX11_stood_114 : decode cX11_stood 114 = .ok (.iinc 5 1, 3) := by decide +kernel
theorem dX11_stood_117 : decode cX11_stood 117 = .ok (.goto (-84), 3) := by decide +kernel
theorem dX11_stood_120 : decode cX11_stood 120 = .ok (.lload_n 3, 1) := by decide +kernel
theorem dX11_stood_121 : decode cX11_stood 121 = .ok (.l2i, 1) := by decide +kernel
theorem dX11_stood_122 : decode cX11_stood 122 = .ok (.ireturn, 1) := by decide +kernel
theorem dX11_owing_0 : decode cX11_owing 0 = .ok (.aload_n 0, 1) := by decide +kernel
theorem dX11_owing_1 : decode cX11_owing 1 = .ok (.iload_n 1, 1) := by decide +kernel
theorem dX11_owing_2 : decode cX11_owing 2 = .ok (.invokevirtual 55, 3) := by decide +kernel
theorem dX11_owing_5 : decode cX11_owing 5 = .ok (.ifCond .ne 5, 3) := by decide +kernel
theorem dX11_owing_8 : decode cX11_owing 8 = .ok (.iconst (-1), 1) := by decide +kernel
theorem dX11_owing_9 : decode cX11_owing 9 = .ok (.ireturn, 1) := by decide +kernel
theorem dX11_owing_10 : decode cX11_owing 10 = .ok (.lconst 0, 1) := by decide +kernel
theorem dX11_owing_11 : decode cX11_owing 11 = .ok (.lstore_n 2, 1) := by decide +kernel
theorem dX11_owing_12 : decode cX11_owing 12 = .ok (.iconst 0, 1) := by decide +kernel
theorem dX11_owing_13 : decode cX11_owing 13 = .ok (.istore 4, 2) := by decide +kernel
theorem dX11_owing_15 : decode cX11_owing 15 = .ok (.iload 4, 2) := by decide +kernel
theorem dX11_owing_17 : decode cX11_owing 17 = .ok (.aload_n 0, 1) := by decide +kernel
theorem dX11_owing_18 : decode cX11_owing 18 = .ok (.bipush 8, 2) := by decide +kernel
theorem dX11_owing_20 : decode cX11_owing 20 = .ok (.invokevirtual 164, 3) := by decide +kernel
theorem dX11_owing_23 : decode cX11_owing 23 = .ok (.if_icmp .ge 74, 3) := by decide +kernel
theorem dX11_owing_26 : decode cX11_owing 26 = .ok (.aload_n 0, 1) := by decide +kernel
theorem dX11_owing_27 : decode cX11_owing 27 = .ok (.iload 4, 2) := by decide +kernel
theorem dX11_owing_29 : decode cX11_owing 29 = .ok (.iconst 0, 1) := by decide +kernel
theorem dX11_owing_30 : decode cX11_owing 30 = .ok (.invokevirtual 196, 3) := by decide +kernel
theorem dX11_owing_33 : decode cX11_owing 33 = .ok (.iload_n 1, 1) := by decide +kernel
theorem dX11_owing_34 : decode cX11_owing 34 = .ok (.if_icmp .ne 57, 3) := by decide +kernel
theorem dX11_owing_37 : decode cX11_owing 37 = .ok (.aload_n 0, 1) := by decide +kernel
theorem dX11_owing_38 : decode cX11_owing 38 = .ok (.iload 4, 2) := by decide +kernel
theorem dX11_owing_40 : decode cX11_owing 40 = .ok (.invokevirtual 199, 3) := by decide +kernel
theorem dX11_owing_43 : decode cX11_owing 43 = .ok (.ifCond .eq 48, 3) := by decide +kernel
theorem dX11_owing_46 : decode cX11_owing 46 = .ok (.lload_n 2, 1) := by decide +kernel
theorem dX11_owing_47 : decode cX11_owing 47 = .ok (.lconst 0, 1) := by decide +kernel
theorem dX11_owing_48 : decode cX11_owing 48 = .ok (.aload_n 0, 1) := by decide +kernel
theorem dX11_owing_49 : decode cX11_owing 49 = .ok (.getfield 9, 3) := by decide +kernel
theorem dX11_owing_52 : decode cX11_owing 52 = .ok (.iconst 3, 1) := by decide +kernel
theorem dX11_owing_53 : decode cX11_owing 53 = .ok (.laload, 1) := by decide +kernel
theorem dX11_owing_54 : decode cX11_owing 54 = .ok (.aload_n 0, 1) := by decide +kernel
theorem dX11_owing_55 : decode cX11_owing 55 = .ok (.getfield 9, 3) := by decide +kernel
theorem dX11_owing_58 : decode cX11_owing 58 = .ok (.iload 4, 2) := by decide +kernel
theorem dX11_owing_60 : decode cX11_owing 60 = .ok (.iconst 2, 1) := by decide +kernel
theorem dX11_owing_61 : decode cX11_owing 61 = .ok (.invokestatic 48, 3) := by decide +kernel
theorem dX11_owing_64 : decode cX11_owing 64 = .ok (.laload, 1) := by decide +kernel
theorem dX11_owing_65 : decode cX11_owing 65 = .ok (.lmul, 1) := by decide +kernel
theorem dX11_owing_66 : decode cX11_owing 66 = .ok (.ldc2_w 349, 3) := by decide +kernel
theorem dX11_owing_69 : decode cX11_owing 69 = .ok (.ladd, 1) := by decide +kernel
theorem dX11_owing_70 : decode cX11_owing 70 = .ok (.ldc2_w 174, 3) := by decide +kernel
theorem dX11_owing_73 : decode cX11_owing 73 = .ok (.ldiv, 1) := by decide +kernel
theorem dX11_owing_74 : decode cX11_owing 74 = .ok (.aload_n 0, 1) := by decide +kernel
theorem dX11_owing_75 : decode cX11_owing 75 = .ok (.getfield 9, 3) := by decide +kernel
theorem dX11_owing_78 : decode cX11_owing 78 = .ok (.iload 4, 2) := by decide +kernel
theorem dX11_owing_80 : decode cX11_owing 80 = .ok (.iconst 4, 1) := by decide +kernel
theorem dX11_owing_81 : decode cX11_owing 81 = .ok (.invokestatic 48, 3) := by decide +kernel
theorem dX11_owing_84 : decode cX11_owing 84 = .ok (.laload, 1) := by decide +kernel
theorem dX11_owing_85 : decode cX11_owing 85 = .ok (.lsub, 1) := by decide +kernel
theorem dX11_owing_86 : decode cX11_owing 86 = .ok (.invokestatic 327, 3) := by decide +kernel
theorem dX11_owing_89 : decode cX11_owing 89 = .ok (.ladd, 1) := by decide +kernel
theorem dX11_owing_90 : decode cX11_owing 90 = .ok (.lstore_n 2, 1) := by decide +kernel
theorem dX11_owing_91 : decode cX11_owing 91 = .ok (.iinc 4 1, 3) := by decide +kernel
theorem dX11_owing_94 : decode cX11_owing 94 = .ok (.goto (-79), 3) := by decide +kernel
theorem dX11_owing_97 : decode cX11_owing 97 = .ok (.lload_n 2, 1) := by decide +kernel
theorem dX11_owing_98 : decode cX11_owing 98 = .ok (.l2i, 1) := by decide +kernel
theorem dX11_owing_99 : decode cX11_owing 99 = .ok (.ireturn, 1) := by decide +kernel
theorem dX11_holds_0 : decode cX11_holds 0 = .ok (.aload_n 0, 1) := by decide +kernel
theorem dX11_holds_1 : decode cX11_holds 1 = .ok (.iload_n 1, 1) := by decide +kernel
theorem dX11_holds_2 : decode cX11_holds 2 = .ok (.invokevirtual 55, 3) := by decide +kernel
theorem dX11_holds_5 : decode cX11_holds 5 = .ok (.ifCond .eq 15, 3) := by decide +kernel
theorem dX11_holds_8 : decode cX11_holds 8 = .ok (.iload_n 2, 1) := by decide +kernel
theorem dX11_holds_9 : decode cX11_holds 9 = .ok (.i2l, 1) := by decide +kernel
theorem dX11_holds_10 : decode cX11_holds 10 = .ok (.lconst 0, 1) := by decide +kernel
theorem dX11_holds_11 : decode cX11_holds 11 = .ok (.ldc2_w 301, 3) := by decide +kernel
theorem dX11_holds_14 : decode cX11_holds 14 = .ok (.invokestatic 51, 3) := by decide +kernel
theorem dX11_holds_17 : decode cX11_holds 17 = .ok (.ifCond .ne 5, 3) := by decide +kernel
theorem dX11_holds_20 : decode cX11_holds 20 = .ok (.iconst (-1), 1) := by decide +kernel
theorem dX11_holds_21 : decode cX11_holds 21 = .ok (.ireturn, 1) := by decide +kernel
theorem dX11_holds_22 : decode cX11_holds 22 = .ok (.iconst 0, 1) := by decide +kernel
theorem dX11_holds_23 : decode cX11_holds 23 = .ok (.istore_n 3, 1) := by decide +kernel
theorem dX11_holds_24 : decode cX11_holds 24 = .ok (.iconst 0, 1) := by decide +kernel
theorem dX11_holds_25 : decode cX11_holds 25 = .ok (.istore 4, 2) := by decide +kernel
theorem dX11_holds_27 : decode cX11_holds 27 = .ok (.bipush (-2), 2) := by decide +kernel
theorem dX11_holds_29 : decode cX11_holds 29 = .ok (.istore 5, 2) := by decide +kernel
theorem dX11_holds_31 : decode cX11_holds 31 = .ok (.bipush (-2), 2) := by decide +kernel
theorem dX11_holds_33 : decode cX11_holds 33 = .ok (.istore 6, 2) := by decide +kernel
theorem dX11_holds_35 : decode cX11_holds 35 = .ok (.iconst 0, 1) := by decide +kernel
theorem dX11_holds_36 : decode cX11_holds 36 = .ok (.istore 7, 2) := by decide +kernel
theorem dX11_holds_38 : decode cX11_holds 38 = .ok (.iload 7, 2) := by decide +kernel
theorem dX11_holds_40 : decode cX11_holds 40 = .ok (.aload_n 0, 1) := by decide +kernel
theorem dX11_holds_41 : decode cX11_holds 41 = .ok (.bipush 8, 2) := by decide +kernel
theorem dX11_holds_43 : decode cX11_holds 43 = .ok (.invokevirtual 164, 3) := by decide +kernel
theorem dX11_holds_46 : decode cX11_holds 46 = .ok (.if_icmp .ge 100, 3) := by decide +kernel
theorem dX11_holds_49 : decode cX11_holds 49 = .ok (.aload_n 0, 1) := by decide +kernel
theorem dX11_holds_50 : decode cX11_holds 50 = .ok (.iload 7, 2) := by decide +kernel
theorem dX11_holds_52 : decode cX11_holds 52 = .ok (.iconst 0, 1) := by decide +kernel
theorem dX11_holds_53 : decode cX11_holds 53 = .ok (.invokevirtual 196, 3) := by decide +kernel
theorem dX11_holds_56 : decode cX11_holds 56 = .ok (.iload_n 1, 1) := by decide +kernel
theorem dX11_holds_57 : decode cX11_holds 57 = .ok (.if_icmp .ne 83, 3) := by decide +kernel
theorem dX11_holds_60 : decode cX11_holds 60 = .ok (.aload_n 0, 1) := by decide +kernel
theorem dX11_holds_61 : decode cX11_holds 61 = .ok (.iload 7, 2) := by decide +kernel
theorem dX11_holds_63 : decode cX11_holds 63 = .ok (.invokevirtual 199, 3) := by decide +kernel
theorem dX11_holds_66 : decode cX11_holds 66 = .ok (.ifCond .ne 6, 3) := by decide +kernel
theorem dX11_holds_69 : decode cX11_holds 69 = .ok (.goto 71, 3) := by decide +kernel
theorem dX11_holds_72 : decode cX11_holds 72 = .ok (.iinc 3 1, 3) := by decide +kernel
theorem dX11_holds_75 : decode cX11_holds 75 = .ok (.iload 4, 2) := by decide +kernel
theorem dX11_holds_77 : decode cX11_holds 77 = .ok (.aload_n 0, 1) := by decide +kernel
theorem dX11_holds_78 : decode cX11_holds 78 = .ok (.iload 7, 2) := by decide +kernel
theorem dX11_holds_80 : decode cX11_holds 80 = .ok (.invokevirtual 214, 3) := by decide +kernel
theorem dX11_holds_83 : decode cX11_holds 83 = .ok (.iadd, 1) := by decide +kernel
theorem dX11_holds_84 : decode cX11_holds 84 = .ok (.istore 4, 2) := by decide +kernel
theorem dX11_holds_86 : decode cX11_holds 86 = .ok (.aload_n 0, 1) := by decide +kernel
theorem dX11_holds_87 : decode cX11_holds 87 = .ok (.iload 7, 2) := by decide +kernel
theorem dX11_holds_89 : decode cX11_holds 89 = .ok (.bipush 6, 2) := by decide +kernel
theorem dX11_holds_91 : decode cX11_holds 91 = .ok (.invokevirtual 196, 3) := by decide +kernel
theorem dX11_holds_94 : decode cX11_holds 94 = .ok (.istore 8, 2) := by decide +kernel
theorem dX11_holds_96 : decode cX11_holds 96 = .ok (.iload 5, 2) := by decide +kernel
theorem dX11_holds_98 : decode cX11_holds 98 = .ok (.bipush (-2), 2) := by decide +kernel
theorem dX11_holds_100 : decode cX11_holds 100 = .ok (.if_icmp .ne 8, 3) := by decide +kernel
theorem dX11_holds_103 : decode cX11_holds 103 = .ok (.iload 8, 2) := by decide +kernel
theorem dX11_holds_105 : decode cX11_holds 105 = .ok (.goto 10, 3) := by decide +kernel
theorem dX11_holds_108 : decode cX11_holds 108 = .ok (.iload 5, 2) := by decide +kernel
theorem dX11_holds_110 : decode cX11_holds 110 = .ok (.iload 8, 2) := by decide +kernel
theorem dX11_holds_112 : decode cX11_holds 112 = .ok (.invokestatic 117, 3) := by decide +kernel
theorem dX11_holds_115 : decode cX11_holds 115 = .ok (.istore 5, 2) := by decide +kernel
theorem dX11_holds_117 : decode cX11_holds 117 = .ok (.iload 6, 2) := by decide +kernel
theorem dX11_holds_119 : decode cX11_holds 119 = .ok (.aload_n 0, 1) := by decide +kernel
theorem dX11_holds_120 : decode cX11_holds 120 = .ok (.bipush 9, 2) := by decide +kernel
theorem dX11_holds_122 : decode cX11_holds 122 = .ok (.invokevirtual 164, 3) := by decide +kernel
theorem dX11_holds_125 : decode cX11_holds 125 = .ok (.aload_n 0, 1) := by decide +kernel
theorem dX11_holds_126 : decode cX11_holds 126 = .ok (.iload 7, 2) := by decide +kernel
theorem dX11_holds_128 : decode cX11_holds 128 = .ok (.iconst 3, 1) := by decide +kernel
theorem dX11_holds_129 : decode cX11_holds 129 = .ok (.invokevirtual 196, 3) := by decide +kernel
theorem dX11_holds_132 : decode cX11_holds 132 = .ok (.isub, 1) := by decide +kernel
theorem dX11_holds_133 : decode cX11_holds 133 = .ok (.iconst 1, 1) := by decide +kernel
theorem dX11_holds_134 : decode cX11_holds 134 = .ok (.iadd, 1) := by decide +kernel
theorem dX11_holds_135 : decode cX11_holds 135 = .ok (.invokestatic 347, 3) := by decide +kernel
theorem dX11_holds_138 : decode cX11_holds 138 = .ok (.istore 6, 2) := by decide +kernel
theorem dX11_holds_140 : decode cX11_holds 140 = .ok (.iinc 7 1, 3) := by decide +kernel
theorem dX11_holds_143 : decode cX11_holds 143 = .ok (.goto (-105), 3) := by decide +kernel
theorem dX11_holds_146 : decode cX11_holds 146 = .ok (.iload_n 2, 1) := by decide +kernel
theorem dX11_holds_147 : decode cX11_holds 147 = .ok (.ifCond .ne 7, 3) := by decide +kernel
theorem dX11_holds_150 : decode cX11_holds 150 = .ok (.iload_n 3, 1) := by decide +kernel
theorem dX11_holds_151 : decode cX11_holds 151 = .ok (.goto 25, 3) := by decide +kernel
theorem dX11_holds_154 : decode cX11_holds 154 = .ok (.iload_n 2, 1) := by decide +kernel
theorem dX11_holds_155 : decode cX11_holds 155 = .ok (.iconst 1, 1) := by decide +kernel
theorem dX11_holds_156 : decode cX11_holds 156 = .ok (.if_icmp .ne 8, 3) := by decide +kernel
theorem dX11_holds_159 : decode cX11_holds 159 = .ok (.iload 4, 2) := by decide +kernel
theorem dX11_holds_161 : decode cX11_holds 161 = .ok (.goto 15, 3) := by decide +kernel
theorem dX11_holds_164 : decode cX11_holds 164 = .ok (.iload_n 2, 1) := by decide +kernel
theorem dX11_holds_165 : decode cX11_holds 165 = .ok (.iconst 2, 1) := by decide +kernel
theorem dX11_holds_166 : decode cX11_holds 166 = .ok (.if_icmp .ne 8, 3) := by decide +kernel
theorem dX11_holds_169 : decode cX11_holds 169 = .ok (.iload 5, 2) := by decide +kernel
theorem dX11_holds_171 : decode cX11_holds 171 = .ok (.goto 5, 3) := by decide +kernel
theorem dX11_holds_174 : decode cX11_holds 174 = .ok (.iload 6, 2) := by decide +kernel
theorem dX11_holds_176 : decode cX11_holds 176 = .ok (.ireturn, 1) := by decide +kernel
theorem dX11_total_0 : decode cX11_total 0 = .ok (.aload_n 0, 1) := by decide +kernel
theorem dX11_total_1 : decode cX11_total 1 = .ok (.invokevirtual 286, 3) := by decide +kernel
theorem dX11_total_4 : decode cX11_total 4 = .ok (.ifCond .eq 28, 3) := by decide +kernel
theorem dX11_total_7 : decode cX11_total 7 = .ok (.iload_n 1, 1) := by decide +kernel
theorem dX11_total_8 : decode cX11_total 8 = .ok (.i2l, 1) := by decide +kernel
theorem dX11_total_9 : decode cX11_total 9 = .ok (.lconst 0, 1) := by decide +kernel
theorem dX11_total_10 : decode cX11_total 10 = .ok (.ldc2_w 129, 3) := by decide +kernel
theorem dX11_total_13 : decode cX11_total 13 = .ok (.invokestatic 51, 3) := by decide +kernel
theorem dX11_total_16 : decode cX11_total 16 = .ok (.ifCond .eq 16, 3) := by decide +kernel
theorem dX11_total_19 : decode cX11_total 19 = .ok (.aload_n 0, 1) := by decide +kernel
theorem dX11_total_20 : decode cX11_total 20 = .ok (.getfield 9, 3) := by decide +kernel
theorem dX11_total_23 : decode cX11_total 23 = .ok (.bipush 11, 2) := by decide +kernel
theorem dX11_total_25 : decode cX11_total 25 = .ok (.iload_n 1, 1) := by decide +kernel
theorem dX11_total_26 : decode cX11_total 26 = .ok (.iadd, 1) := by decide +kernel
theorem dX11_total_27 : decode cX11_total 27 = .ok (.laload, 1) := by decide +kernel
theorem dX11_total_28 : decode cX11_total 28 = .ok (.l2i, 1) := by decide +kernel
theorem dX11_total_29 : decode cX11_total 29 = .ok (.goto 4, 3) := by decide +kernel
theorem dX11_total_32 : decode cX11_total 32 = .ok (.iconst (-1), 1) := by decide +kernel
theorem dX11_total_33 : decode cX11_total 33 = .ok (.ireturn, 1) := by decide +kernel
theorem dX11_row_0 : decode cX11_row 0 = .ok (.iload_n 1, 1) := by decide +kernel
theorem dX11_row_1 : decode cX11_row 1 = .ok (.i2l, 1) := by decide +kernel
theorem dX11_row_2 : decode cX11_row 2 = .ok (.lconst 0, 1) := by decide +kernel
theorem dX11_row_3 : decode cX11_row 3 = .ok (.ldc2_w 301, 3) := by decide +kernel
theorem dX11_row_6 : decode cX11_row 6 = .ok (.invokestatic 51, 3) := by decide +kernel
theorem dX11_row_9 : decode cX11_row 9 = .ok (.ifCond .eq 15, 3) := by decide +kernel
theorem dX11_row_12 : decode cX11_row 12 = .ok (.iload_n 2, 1) := by decide +kernel
theorem dX11_row_13 : decode cX11_row 13 = .ok (.i2l, 1) := by decide +kernel
theorem dX11_row_14 : decode cX11_row 14 = .ok (.lconst 0, 1) := by decide +kernel
theorem dX11_row_15 : decode cX11_row 15 = .ok (.ldc2_w 351, 3) := by decide +kernel
theorem dX11_row_18 : decode cX11_row 18 = .ok (.invokestatic 51, 3) := by decide +kernel
theorem dX11_row_21 : decode cX11_row 21 = .ok (.ifCond .ne 5, 3) := by decide +kernel
theorem dX11_row_24 : decode cX11_row 24 = .ok (.iconst (-1), 1) := by decide +kernel
theorem dX11_row_25 : decode cX11_row 25 = .ok (.ireturn, 1) := by decide +kernel
theorem dX11_row_26 : decode cX11_row 26 = .ok (.aload_n 0, 1) := by decide +kernel
theorem dX11_row_27 : decode cX11_row 27 = .ok (.iload_n 1, 1) := by decide +kernel
theorem dX11_row_28 : decode cX11_row 28 = .ok (.putfield 36, 3) := by decide +kernel
theorem dX11_row_31 : decode cX11_row 31 = .ok (.aload_n 0, 1) := by decide +kernel
theorem dX11_row_32 : decode cX11_row 32 = .ok (.iload_n 2, 1) := by decide +kernel
theorem dX11_row_33 : decode cX11_row 33 = .ok (.putfield 353, 3) := by decide +kernel
theorem dX11_row_36 : decode cX11_row 36 = .ok (.iconst 0, 1) := by decide +kernel
theorem dX11_row_37 : decode cX11_row 37 = .ok (.istore_n 3, 1) := by decide +kernel
theorem dX11_row_38 : decode cX11_row 38 = .ok (.iload_n 3, 1) := by decide +kernel
theorem dX11_row_39 : decode cX11_row 39 = .ok (.bipush 40, 2) := by decide +kernel
theorem dX11_row_41 : decode cX11_row 41 = .ok (.if_icmp .ge 16, 3) := by decide +kernel
theorem dX11_row_44 : decode cX11_row 44 = .ok (.aload_n 0, 1) := by decide +kernel
theorem dX11_row_45 : decode cX11_row 45 = .ok (.getfield 33, 3) := by decide +kernel
theorem dX11_row_48 : decode cX11_row 48 = .ok (.iload_n 3, 1) := by decide +kernel
theorem dX11_row_49 : decode cX11_row 49 = .ok (.lconst 0, 1) := by decide +kernel
theorem dX11_row_50 : decode cX11_row 50 = .ok (.lastore, 1) := by decide +kernel
theorem dX11_row_51 : decode cX11_row 51 = .ok (.iinc 3 1, 3) := by decide +kernel
theorem dX11_row_54 : decode cX11_row 54 = .ok (.goto (-16), 3) := by decide +kernel
theorem dX11_row_57 : decode cX11_row 57 = .ok (.iload_n 2, 1) := by decide +kernel
theorem dX11_row_58 : decode cX11_row 58 = .ok (.ireturn, 1) := by decide +kernel
theorem dX11_note_0 : decode cX11_note 0 = .ok (.iload_n 2, 1) := by decide +kernel
theorem dX11_note_1 : decode cX11_note 1 = .ok (.i2l, 1) := by decide +kernel
theorem dX11_note_2 : decode cX11_note 2 = .ok (.lconst 0, 1) := by decide +kernel
theorem dX11_note_3 : decode cX11_note 3 = .ok (.ldc2_w 301, 3) := by decide +kernel
theorem dX11_note_6 : decode cX11_note 6 = .ok (.invokestatic 51, 3) := by decide +kernel
theorem dX11_note_9 : decode cX11_note 9 = .ok (.ifCond .ne 5, 3) := by decide +kernel
theorem dX11_note_12 : decode cX11_note 12 = .ok (.iconst (-1), 1) := by decide +kernel
theorem dX11_note_13 : decode cX11_note 13 = .ok (.ireturn, 1) := by decide +kernel
theorem dX11_note_14 : decode cX11_note 14 = .ok (.aload_n 0, 1) := by decide +kernel
theorem dX11_note_15 : decode cX11_note 15 = .ok (.getfield 36, 3) := by decide +kernel
theorem dX11_note_18 : decode cX11_note 18 = .ok (.iconst (-1), 1) := by decide +kernel
theorem dX11_note_19 : decode cX11_note 19 = .ok (.if_icmp .ne 6, 3) := by decide +kernel
theorem dX11_note_22 : decode cX11_note 22 = .ok (.bipush (-2), 2) := by decide +kernel
theorem dX11_note_24 : decode cX11_note 24 = .ok (.ireturn, 1) := by decide +kernel
theorem dX11_note_25 : decode cX11_note 25 = .ok (.iload_n 1, 1) := by decide +kernel
theorem dX11_note_26 : decode cX11_note 26 = .ok (.i2l, 1) := by decide +kernel
theorem dX11_note_27 : decode cX11_note 27 = .ok (.lconst 0, 1) := by decide +kernel
theorem dX11_note_28 : decode cX11_note 28 = .ok (.aload_n 0, 1) := by decide +kernel
theorem dX11_note_29 : decode cX11_note 29 = .ok (.getfield 353, 3) := by decide +kernel
theorem dX11_note_32 : decode cX11_note 32 = .ok (.iconst 1, 1) := by decide +kernel
theorem dX11_note_33 : decode cX11_note 33 = .ok (.isub, 1) := by decide +kernel
theorem dX11_note_34 : decode cX11_note 34 = .ok (.i2l, 1) := by decide +kernel
theorem dX11_note_35 : decode cX11_note 35 = .ok (.invokestatic 51, 3) := by decide +kernel
theorem dX11_note_38 : decode cX11_note 38 = .ok (.ifCond .ne 6, 3) := by decide +kernel
theorem dX11_note_41 : decode cX11_note 41 = .ok (.bipush (-3), 2) := by decide +kernel
theorem dX11_note_43 : decode cX11_note 43 = .ok (.ireturn, 1) := by decide +kernel
theorem dX11_note_44 : decode cX11_note 44 = .ok (.iload_n 2, 1) := by decide +kernel
theorem dX11_note_45 : decode cX11_note 45 = .ok (.aload_n 0, 1) := by decide +kernel
theorem dX11_note_46 : decode cX11_note 46 = .ok (.getfield 36, 3) := by decide +kernel
theorem dX11_note_49 : decode cX11_note 49 = .ok (.if_icmp .eq 6, 3) := by decide +kernel
theorem dX11_note_52 : decode cX11_note 52 = .ok (.bipush (-4), 2) := by decide +kernel
theorem dX11_note_54 : decode cX11_note 54 = .ok (.ireturn, 1) := by decide +kernel
theorem dX11_note_55 : decode cX11_note 55 = .ok (.iload_n 2, 1) := by decide +kernel
theorem dX11_note_56 : decode cX11_note 56 = .ok (.ifCond .ne 16, 3) := by decide +kernel
theorem dX11_note_59 : decode cX11_note 59 = .ok (.lload_n 3, 1) := by decide +kernel
theorem dX11_note_60 : decode cX11_note 60 = .ok (.ldc2_w 358, 3) := by decide +kernel
theorem dX11_note_63 : decode cX11_note 63 = .ok (.ldc2_w 360, 3) := by decide +kernel
theorem dX11_note_66 : decode cX11_note 66 = .ok (.invokestatic 51, 3) := by decide +kernel
theorem dX11_note_69 : decode cX11_note 69 = .ok (.ifCond .eq 21, 3) := by decide +kernel
theorem dX11_note_72 : decode cX11_note 72 = .ok (.iload_n 2, 1) := by decide +kernel
theorem dX11_note_73 : decode cX11_note 73 = .ok (.iconst 3, 1) := by decide +kernel
theorem dX11_note_74 : decode cX11_note 74 = .ok (.if_icmp .ne 19, 3) := by decide +kernel
theorem dX11_note_77 : decode cX11_note 77 = .ok (.lload_n 3, 1) := by decide +kernel
theorem dX11_note_78 : decode cX11_note 78 = .ok (.ldc2_w 362, 3) := by decide +kernel
theorem dX11_note_81 : decode cX11_note 81 = .ok (.ldc2_w 364, 3) := by decide +kernel
theorem dX11_note_84 : decode cX11_note 84 = .ok (.invokestatic 51, 3) := by decide +kernel
theorem dX11_note_87 : decode cX11_note 87 = .ok (.ifCond .ne 6, 3) := by decide +kernel
theorem dX11_note_90 : decode cX11_note 90 = .ok (.bipush (-5), 2) := by decide +kernel
theorem dX11_note_92 : decode cX11_note 92 = .ok (.ireturn, 1) := by decide +kernel
theorem dX11_note_93 : decode cX11_note 93 = .ok (.aload_n 0, 1) := by decide +kernel
theorem dX11_note_94 : decode cX11_note 94 = .ok (.getfield 33, 3) := by decide +kernel
theorem dX11_note_97 : decode cX11_note 97 = .ok (.iload_n 1, 1) := by decide +kernel
theorem dX11_note_98 : decode cX11_note 98 = .ok (.iload_n 2, 1) := by decide +kernel
theorem dX11_note_99 : decode cX11_note 99 = .ok (.iconst 2, 1) := by decide +kernel
theorem dX11_note_100 : decode cX11_note 100 = .ok (.if_icmp .ne 13, 3) := by decide +kernel
theorem dX11_note_103 : decode cX11_note 103 = .ok (.lload_n 3, 1) := by decide +kernel
theorem dX11_note_104 : decode cX11_note 104 = .ok (.invokestatic 260, 3) := by decide +kernel
theorem dX11_note_107 : decode cX11_note 107 = .ok (.invokestatic 276, 3) := by decide +kernel
theorem dX11_note_110 : decode cX11_note 110 = .ok (.goto 4, 3) := by decide +kernel
theorem dX11_note_113 : decode cX11_note 113 = .ok (.lload_n 3, 1) := by decide +kernel
theorem dX11_note_114 : decode cX11_note 114 = .ok (.lastore, 1) := by decide +kernel
theorem dX11_note_115 : decode cX11_note 115 = .ok (.iload_n 1, 1) := by decide +kernel
theorem dX11_note_116 : decode cX11_note 116 = .ok (.ireturn, 1) := by decide +kernel
theorem dX11_noted_0 : decode cX11_noted 0 = .ok (.aload_n 0, 1) := by decide +kernel
theorem dX11_noted_1 : decode cX11_noted 1 = .ok (.getfield 36, 3) := by decide +kernel
theorem dX11_noted_4 : decode cX11_noted 4 = .ok (.iconst (-1), 1) := by decide +kernel
theorem dX11_noted_5 : decode cX11_noted 5 = .ok (.if_icmp .eq 28, 3) := by decide +kernel
theorem dX11_noted_8 : decode cX11_noted 8 = .ok (.iload_n 1, 1) := by decide +kernel
theorem dX11_noted_9 : decode cX11_noted 9 = .ok (.i2l, 1) := by decide +kernel
theorem dX11_noted_10 : decode cX11_noted 10 = .ok (.lconst 0, 1) := by decide +kernel
theorem dX11_noted_11 : decode cX11_noted 11 = .ok (.aload_n 0, 1) := by decide +kernel
theorem dX11_noted_12 : decode cX11_noted 12 = .ok (.getfield 353, 3) := by decide +kernel
theorem dX11_noted_15 : decode cX11_noted 15 = .ok (.iconst 1, 1) := by decide +kernel
theorem dX11_noted_16 : decode cX11_noted 16 = .ok (.isub, 1) := by decide +kernel
theorem dX11_noted_17 : decode cX11_noted 17 = .ok (.i2l, 1) := by decide +kernel
theorem dX11_noted_18 : decode cX11_noted 18 = .ok (.invokestatic 51, 3) := by decide +kernel
theorem dX11_noted_21 : decode cX11_noted 21 = .ok (.ifCond .eq 12, 3) := by decide +kernel
theorem dX11_noted_24 : decode cX11_noted 24 = .ok (.aload_n 0, 1) := by decide +kernel
theorem dX11_noted_25 : decode cX11_noted 25 = .ok (.getfield 33, 3) := by decide +kernel
theorem dX11_noted_28 : decode cX11_noted 28 = .ok (.iload_n 1, 1) := by decide +kernel
theorem dX11_noted_29 : decode cX11_noted 29 = .ok (.laload, 1) := by decide +kernel
theorem dX11_noted_30 : decode cX11_noted 30 = .ok (.goto 6, 3) := by decide +kernel
theorem dX11_noted_33 : decode cX11_noted 33 = .ok (.ldc2_w 366, 3) := by decide +kernel
theorem dX11_noted_36 : decode cX11_noted 36 = .ok (.lreturn, 1) := by decide +kernel
theorem dX11_writes_0 : decode cX11_writes 0 = .ok (.aload_n 0, 1) := by decide +kernel
theorem dX11_writes_1 : decode cX11_writes 1 = .ok (.getfield 368, 3) := by decide +kernel
theorem dX11_writes_4 : decode cX11_writes 4 = .ok (.aload_n 0, 1) := by decide +kernel
theorem dX11_writes_5 : decode cX11_writes 5 = .ok (.getfield 371, 3) := by decide +kernel
theorem dX11_writes_8 : decode cX11_writes 8 = .ok (.if_icmp .ne 8, 3) := by decide +kernel
theorem dX11_writes_11 : decode cX11_writes 11 = .ok (.aload_n 0, 1) := by decide +kernel
theorem dX11_writes_12 : decode cX11_writes 12 = .ok (.iload_n 1, 1) := by decide +kernel
theorem dX11_writes_13 : decode cX11_writes 13 = .ok (.putfield 374, 3) := by decide +kernel
theorem dX11_writes_16 : decode cX11_writes 16 = .ok (.aload_n 0, 1) := by decide +kernel
theorem dX11_writes_17 : decode cX11_writes 17 = .ok (.dup, 1) := by decide +kernel
theorem dX11_writes_18 : decode cX11_writes 18 = .ok (.getfield 368, 3) := by decide +kernel
theorem dX11_writes_21 : decode cX11_writes 21 = .ok (.iconst 1, 1) := by decide +kernel
theorem dX11_writes_22 : decode cX11_writes 22 = .ok (.iadd, 1) := by decide +kernel
theorem dX11_writes_23 : decode cX11_writes 23 = .ok (.putfield 368, 3) := by decide +kernel
theorem dX11_writes_26 : decode cX11_writes 26 = .ok (.return_, 1) := by decide +kernel
theorem dX11_writesWord_0 : decode cX11_writesWord 0 = .ok (.iconst 0, 1) := by decide +kernel
theorem dX11_writesWord_1 : decode cX11_writesWord 1 = .ok (.istore_n 2, 1) := by decide +kernel
theorem dX11_writesWord_2 : decode cX11_writesWord 2 = .ok (.iload_n 2, 1) := by decide +kernel
theorem dX11_writesWord_3 : decode cX11_writesWord 3 = .ok (.aload_n 1, 1) := by decide +kernel
theorem dX11_writesWord_4 : decode cX11_writesWord 4 = .ok (.invokevirtual 92, 3) := by decide +kernel
theorem dX11_writesWord_7 : decode cX11_writesWord 7 = .ok (.if_icmp .ge 18, 3) := by decide +kernel
theorem dX11_writesWord_10 : decode cX11_writesWord 10 = .ok (.aload_n 0, 1) := by decide +kernel
theorem dX11_writesWord_11 : decode cX11_writesWord 11 = .ok (.aload_n 1, 1) := by decide +kernel
theorem dX11_writesWord_12 : decode cX11_writesWord 12 = .ok (.iload_n 2, 1) := by decide +kernel
theorem dX11_writesWord_13 : decode cX11_writesWord 13 = .ok (.invokevirtual 97, 3) := by decide +kernel
theorem dX11_writesWord_16 : decode cX11_writesWord 16 = .ok (.invokevirtual 377, 3) := by decide +kernel
theorem dX11_writesWord_19 : decode cX11_writesWord 19 = .ok (.iinc 2 1, 3) := by decide +kernel
theorem dX11_writesWord_22 : decode cX11_writesWord 22 = .ok (.goto (-20), 3) := by decide +kernel
theorem dX11_writesWord_25 : decode cX11_writesWord 25 = .ok (.return_, 1) := by decide +kernel
theorem dX11_writesDigits_0 : decode cX11_writesDigits 0 = .ok (.iload_n 1, 1) := by decide +kernel
theorem dX11_writesDigits_1 : decode cX11_writesDigits 1 = .ok (.bipush 9, 2) := by decide +kernel
theorem dX11_writesDigits_3 : decode cX11_writesDigits 3 = .ok (.if_icmp .le 11, 3) := by decide +kernel
theorem dX11_writesDigits_6 : decode cX11_writesDigits 6 = .ok (.aload_n 0, 1) := by decide +kernel
theorem dX11_writesDigits_7 : decode cX11_writesDigits 7 = .ok (.iload_n 1, 1) := by decide +kernel
theorem dX11_writesDigits_8 : decode cX11_writesDigits 8 = .ok (.bipush 10, 2) := by decide +kernel
theorem dX11_writesDigits_10 : decode cX11_writesDigits 10 = .ok (.idiv, 1) := by decide +kernel
theorem dX11_writesDigits_11 : decode cX11_writesDigits 11 = .ok (.invokevirtual 380, 3) := by decide +kernel
theorem dX11_writesDigits_14 : decode cX11_writesDigits 14 = .ok (.aload_n 0, 1) := by decide +kernel
theorem dX11_writesDigits_15 : decode cX11_writesDigits 15 = .ok (.bipush 48, 2) := by decide +kernel
theorem dX11_writesDigits_17 : decode cX11_writesDigits 17 = .ok (.iload_n 1, 1) := by decide +kernel
theorem dX11_writesDigits_18 : decode cX11_writesDigits 18 = .ok (.bipush 10, 2) := by decide +kernel
theorem dX11_writesDigits_20 : decode cX11_writesDigits 20 = .ok (.irem, 1) := by decide +kernel
theorem dX11_writesDigits_21 : decode cX11_writesDigits 21 = .ok (.iadd, 1) := by decide +kernel
theorem dX11_writesDigits_22 : decode cX11_writesDigits 22 = .ok (.invokevirtual 377, 3) := by decide +kernel
theorem dX11_writesDigits_25 : decode cX11_writesDigits 25 = .ok (.return_, 1) := by decide +kernel
theorem dX11_writesNumber_0 : decode cX11_writesNumber 0 = .ok (.aload_n 0, 1) := by decide +kernel
theorem dX11_writesNumber_1 : decode cX11_writesNumber 1 = .ok (.bipush 32, 2) := by decide +kernel
theorem dX11_writesNumber_3 : decode cX11_writesNumber 3 = .ok (.invokevirtual 377, 3) := by decide +kernel
theorem dX11_writesNumber_6 : decode cX11_writesNumber 6 = .ok (.aload_n 0, 1) := by decide +kernel
theorem dX11_writesNumber_7 : decode cX11_writesNumber 7 = .ok (.iload_n 1, 1) := by decide +kernel
theorem dX11_writesNumber_8 : decode cX11_writesNumber 8 = .ok (.invokevirtual 380, 3) := by decide +kernel
theorem dX11_writesNumber_11 : decode cX11_writesNumber 11 = .ok (.return_, 1) := by decide +kernel
theorem dX11_writesAll_0 : decode cX11_writesAll 0 = .ok (.aload_n 0, 1) := by decide +kernel
theorem dX11_writesAll_1 : decode cX11_writesAll 1 = .ok (.ldc 142, 2) := by decide +kernel
theorem dX11_writesAll_3 : decode cX11_writesAll 3 = .ok (.invokevirtual 383, 3) := by decide +kernel
theorem dX11_writesAll_6 : decode cX11_writesAll 6 = .ok (.iconst 0, 1) := by decide +kernel
theorem dX11_writesAll_7 : decode cX11_writesAll 7 = .ok (.istore_n 1, 1) := by decide +kernel
theorem dX11_writesAll_8 : decode cX11_writesAll 8 = .ok (.iload_n 1, 1) := by decide +kernel
theorem dX11_writesAll_9 : decode cX11_writesAll 9 = .ok (.iconst 5, 1) := by decide +kernel
theorem dX11_writesAll_10 : decode cX11_writesAll 10 = .ok (.if_icmp .gt 18, 3) := by decide +kernel
theorem dX11_writesAll_13 : decode cX11_writesAll 13 = .ok (.aload_n 0, 1) := by decide +kernel
theorem dX11_writesAll_14 : decode cX11_writesAll 14 = .ok (.aload_n 0, 1) := by decide +kernel
theorem dX11_writesAll_15 : decode cX11_writesAll 15 = .ok (.iload_n 1, 1) := by decide +kernel
theorem dX11_writesAll_16 : decode cX11_writesAll 16 = .ok (.invokevirtual 164, 3) := by decide +kernel
theorem dX11_writesAll_19 : decode cX11_writesAll 19 = .ok (.invokevirtual 387, 3) := by decide +kernel
theorem dX11_writesAll_22 : decode cX11_writesAll 22 = .ok (.iinc 1 1, 3) := by decide +kernel
theorem dX11_writesAll_25 : decode cX11_writesAll 25 = .ok (.goto (-17), 3) := by decide +kernel
theorem dX11_writesAll_28 : decode cX11_writesAll 28 = .ok (.iconst 0, 1) := by decide +kernel
theorem dX11_writesAll_29 : decode cX11_writesAll 29 = .ok (.istore_n 1, 1) := by decide +kernel
theorem dX11_writesAll_30 : decode cX11_writesAll 30 = .ok (.iload_n 1, 1) := by decide +kernel
theorem dX11_writesAll_31 : decode cX11_writesAll 31 = .ok (.aload_n 0, 1) := by decide +kernel
theorem dX11_writesAll_32 : decode cX11_writesAll 32 = .ok (.bipush 6, 2) := by decide +kernel
theorem dX11_writesAll_34 : decode cX11_writesAll 34 = .ok (.invokevirtual 164, 3) := by decide +kernel
theorem dX11_writesAll_37 : decode cX11_writesAll 37 = .ok (.if_icmp .ge 26, 3) := by decide +kernel
theorem dX11_writesAll_40 : decode cX11_writesAll 40 = .ok (.aload_n 0, 1) := by decide +kernel
theorem dX11_writesAll_41 : decode cX11_writesAll 41 = .ok (.ldc_w 390, 3) := by decide +kernel
theorem dX11_writesAll_44 : decode cX11_writesAll 44 = .ok (.invokevirtual 383, 3) := by decide +kernel
theorem dX11_writesAll_47 : decode cX11_writesAll 47 = .ok (.aload_n 0, 1) := by decide +kernel
theorem dX11_writesAll_48 : decode cX11_writesAll 48 = .ok (.aload_n 0, 1) := by decide +kernel
theorem dX11_writesAll_49 : decode cX11_writesAll 49 = .ok (.iload_n 1, 1) := by decide +kernel
theorem dX11_writesAll_50 : decode cX11_writesAll 50 = .ok (.iconst 0, 1) := by decide +kernel
theorem dX11_writesAll_51 : decode cX11_writesAll 51 = .ok (.invokevirtual 226, 3) := by decide +kernel
theorem dX11_writesAll_54 : decode cX11_writesAll 54 = .ok (.invokevirtual 387, 3) := by decide +kernel
theorem dX11_writesAll_57 : decode cX11_writesAll 57 = .ok (.iinc 1 1, 3) := by decide +kernel
theorem dX11_writesAll_60 : decode cX11_writesAll 60 = .ok (.goto (-30), 3) := by decide +kernel
theorem dX11_writesAll_63 : decode cX11_writesAll 63 = .ok (.iconst 0, 1) := by decide +kernel
theorem dX11_writesAll_64 : decode cX11_writesAll 64 = .ok (.istore_n 1, 1) := by decide +kernel
theorem dX11_writesAll_65 : decode cX11_writesAll 65 = .ok (.iload_n 1, 1) := by decide +kernel
theorem dX11_writesAll_66 : decode cX11_writesAll 66 = .ok (.aload_n 0, 1) := by decide +kernel
theorem dX11_writesAll_67 : decode cX11_writesAll 67 = .ok (.bipush 7, 2) := by decide +kernel
theorem dX11_writesAll_69 : decode cX11_writesAll 69 = .ok (.invokevirtual 164, 3) := by decide +kernel
theorem dX11_writesAll_72 : decode cX11_writesAll 72 = .ok (.if_icmp .ge 16, 3) := by decide +kernel
theorem dX11_writesAll_75 : decode cX11_writesAll 75 = .ok (.aload_n 0, 1) := by decide +kernel
theorem dX11_writesAll_76 : decode cX11_writesAll 76 = .ok (.ldc_w 392, 3) := by decide +kernel
theorem dX11_writesAll_79 : decode cX11_writesAll 79 = .ok (.invokevirtual 383, 3) := by decide +kernel
theorem dX11_writesAll_82 : decode cX11_writesAll 82 = .ok (.iinc 1 1, 3) := by decide +kernel
theorem dX11_writesAll_85 : decode cX11_writesAll 85 = .ok (.goto (-20), 3) := by decide +kernel
theorem dX11_writesAll_88 : decode cX11_writesAll 88 = .ok (.iconst 0, 1) := by decide +kernel
theorem dX11_writesAll_89 : decode cX11_writesAll 89 = .ok (.istore_n 1, 1) := by decide +kernel
theorem dX11_writesAll_90 : decode cX11_writesAll 90 = .ok (.iload_n 1, 1) := by decide +kernel
theorem dX11_writesAll_91 : decode cX11_writesAll 91 = .ok (.aload_n 0, 1) := by decide +kernel
theorem dX11_writesAll_92 : decode cX11_writesAll 92 = .ok (.bipush 7, 2) := by decide +kernel
theorem dX11_writesAll_94 : decode cX11_writesAll 94 = .ok (.invokevirtual 164, 3) := by decide +kernel
theorem dX11_writesAll_97 : decode cX11_writesAll 97 = .ok (.if_icmp .ge 83, 3) := by decide +kernel
theorem dX11_writesAll_100 : decode cX11_writesAll 100 = .ok (.iconst 0, 1) := by decide +kernel
theorem dX11_writesAll_101 : decode cX11_writesAll 101 = .ok (.istore_n 2, 1) := by decide +kernel
theorem dX11_writesAll_102 : decode cX11_writesAll 102 = .ok (.iload_n 2, 1) := by decide +kernel
theorem dX11_writesAll_103 : decode cX11_writesAll 103 = .ok (.aload_n 0, 1) := by decide +kernel
theorem dX11_writesAll_104 : decode cX11_writesAll 104 = .ok (.bipush 6, 2) := by decide +kernel
theorem dX11_writesAll_106 : decode cX11_writesAll 106 = .ok (.invokevirtual 164, 3) := by decide +kernel
theorem dX11_writesAll_109 : decode cX11_writesAll 109 = .ok (.if_icmp .ge 65, 3) := by decide +kernel
theorem dX11_writesAll_112 : decode cX11_writesAll 112 = .ok (.aload_n 0, 1) := by decide +kernel
theorem dX11_writesAll_113 : decode cX11_writesAll 113 = .ok (.iload_n 1, 1) := by decide +kernel
theorem dX11_writesAll_114 : decode cX11_writesAll 114 = .ok (.iload_n 2, 1) := by decide +kernel
theorem dX11_writesAll_115 : decode cX11_writesAll 115 = .ok (.invokevirtual 170, 3) := by decide +kernel
theorem dX11_writesAll_118 : decode cX11_writesAll 118 = .ok (.lconst 0, 1) := by decide +kernel
theorem dX11_writesAll_119 : decode cX11_writesAll 119 = .ok (.lcmp, 1) := by decide +kernel
theorem dX11_writesAll_120 : decode cX11_writesAll 120 = .ok (.ifCond .ne 6, 3) := by decide +kernel
theorem dX11_writesAll_123 : decode cX11_writesAll 123 = .ok (.goto 45, 3) := by decide +kernel
theorem dX11_writesAll_126 : decode cX11_writesAll 126 = .ok (.aload_n 0, 1) := by decide +kernel
theorem dX11_writesAll_127 : decode cX11_writesAll 127 = .ok (.ldc_w 394, 3) := by decide +kernel
theorem dX11_writesAll_130 : decode cX11_writesAll 130 = .ok (.invokevirtual 383, 3) := by decide +kernel
theorem dX11_writesAll_133 : decode cX11_writesAll 133 = .ok (.aload_n 0, 1) := by decide +kernel
theorem dX11_writesAll_134 : decode cX11_writesAll 134 = .ok (.iload_n 1, 1) := by decide +kernel
theorem dX11_writesAll_135 : decode cX11_writesAll 135 = .ok (.invokevirtual 387, 3) := by decide +kernel
theorem dX11_writesAll_138 : decode cX11_writesAll 138 = .ok (.aload_n 0, 1) := by decide +kernel
theorem dX11_writesAll_139 : decode cX11_writesAll 139 = .ok (.iload_n 2, 1) := by decide +kernel
theorem dX11_writesAll_140 : decode cX11_writesAll 140 = .ok (.invokevirtual 387, 3) := by decide +kernel
theorem dX11_writesAll_143 : decode cX11_writesAll 143 = .ok (.iconst 2, 1) := by decide +kernel
theorem dX11_writesAll_144 : decode cX11_writesAll 144 = .ok (.istore_n 3, 1) := by decide +kernel
theorem dX11_writesAll_145 : decode cX11_writesAll 145 = .ok (.iload_n 3, 1) := by decide +kernel
theorem dX11_writesAll_146 : decode cX11_writesAll 146 = .ok (.ifCond .lt 22, 3) := by decide +kernel
theorem dX11_writesAll_149 : decode cX11_writesAll 149 = .ok (.aload_n 0, 1) := by decide +kernel
theorem dX11_writesAll_150 : decode cX11_writesAll 150 = .ok (.aload_n 0, 1) := by decide +kernel
theorem dX11_writesAll_151 : decode cX11_writesAll 151 = .ok (.iload_n 1, 1) := by decide +kernel
theorem dX11_writesAll_152 : decode cX11_writesAll 152 = .ok (.iload_n 2, 1) := by decide +kernel
theorem dX11_writesAll_153 : decode cX11_writesAll 153 = .ok (.iconst 0, 1) := by decide +kernel
theorem dX11_writesAll_154 : decode cX11_writesAll 154 = .ok (.iload_n 3, 1) := by decide +kernel
theorem dX11_writesAll_155 : decode cX11_writesAll 155 = .ok (.iadd, 1) := by decide +kernel
theorem dX11_writesAll_156 : decode cX11_writesAll 156 = .ok (.invokevirtual 167, 3) := by decide +kernel
theorem dX11_writesAll_159 : decode cX11_writesAll 159 = .ok (.invokevirtual 387, 3) := by decide +kernel
theorem dX11_writesAll_162 : decode cX11_writesAll 162 = .ok (.iinc 3 (-1), 3) := by decide +kernel
theorem dX11_writesAll_165 : decode cX11_writesAll 165 = .ok (.goto (-20), 3) := by decide +kernel
theorem dX11_writesAll_168 : decode cX11_writesAll 168 = .ok (.iinc 2 1, 3) := by decide +kernel
theorem dX11_writesAll_171 : decode cX11_writesAll 171 = .ok (.goto (-69), 3) := by decide +kernel
theorem dX11_writesAll_174 : decode cX11_writesAll 174 = .ok (.iinc 1 1, 3) := by decide +kernel
theorem dX11_writesAll_177 : decode cX11_writesAll 177 = .ok (.goto (-87), 3) := by decide +kernel
theorem dX11_writesAll_180 : decode cX11_writesAll 180 = .ok (.return_, 1) := by decide +kernel
theorem dX11_letter_0 : decode cX11_letter 0 = .ok (.iload_n 1, 1) := by decide +kernel
theorem dX11_letter_1 : decode cX11_letter 1 = .ok (.iconst (-1), 1) := by decide +kernel
theorem dX11_letter_2 : decode cX11_letter 2 = .ok (.if_icmp .ge 5, 3) := by decide +kernel
theorem dX11_letter_5 : decode cX11_letter 5 = .ok (.iconst (-1), 1) := by decide +kernel
theorem dX11_letter_6 : decode cX11_letter 6 = .ok (.ireturn, 1) := by decide +kernel
theorem dX11_letter_7 : decode cX11_letter 7 = .ok (.aload_n 0, 1) := by decide +kernel
theorem dX11_letter_8 : decode cX11_letter 8 = .ok (.iconst 0, 1) := by decide +kernel
theorem dX11_letter_9 : decode cX11_letter 9 = .ok (.putfield 368, 3) := by decide +kernel
theorem dX11_letter_12 : decode cX11_letter 12 = .ok (.aload_n 0, 1) := by decide +kernel
theorem dX11_letter_13 : decode cX11_letter 13 = .ok (.iload_n 1, 1) := by decide +kernel
theorem dX11_letter_14 : decode cX11_letter 14 = .ok (.putfield 371, 3) := by decide +kernel
theorem dX11_letter_17 : decode cX11_letter 17 = .ok (.aload_n 0, 1) := by decide +kernel
theorem dX11_letter_18 : decode cX11_letter 18 = .ok (.invokevirtual 286, 3) := by decide +kernel
theorem dX11_letter_21 : decode cX11_letter 21 = .ok (.ifCond .eq 7, 3) := by decide +kernel
theorem dX11_letter_24 : decode cX11_letter 24 = .ok (.aload_n 0, 1) := by decide +kernel
theorem dX11_letter_25 : decode cX11_letter 25 = .ok (.invokevirtual 396, 3) := by decide +kernel
theorem dX11_letter_28 : decode cX11_letter 28 = .ok (.iload_n 1, 1) := by decide +kernel
theorem dX11_letter_29 : decode cX11_letter 29 = .ok (.iconst (-1), 1) := by decide +kernel
theorem dX11_letter_30 : decode cX11_letter 30 = .ok (.if_icmp .ne 10, 3) := by decide +kernel
theorem dX11_letter_33 : decode cX11_letter 33 = .ok (.aload_n 0, 1) := by decide +kernel
theorem dX11_letter_34 : decode cX11_letter 34 = .ok (.getfield 368, 3) := by decide +kernel
theorem dX11_letter_37 : decode cX11_letter 37 = .ok (.goto 20, 3) := by decide +kernel
theorem dX11_letter_40 : decode cX11_letter 40 = .ok (.iload_n 1, 1) := by decide +kernel
theorem dX11_letter_41 : decode cX11_letter 41 = .ok (.aload_n 0, 1) := by decide +kernel
theorem dX11_letter_42 : decode cX11_letter 42 = .ok (.getfield 368, 3) := by decide +kernel
theorem dX11_letter_45 : decode cX11_letter 45 = .ok (.if_icmp .ge 10, 3) := by decide +kernel
theorem dX11_letter_48 : decode cX11_letter 48 = .ok (.aload_n 0, 1) := by decide +kernel
theorem dX11_letter_49 : decode cX11_letter 49 = .ok (.getfield 374, 3) := by decide +kernel
theorem dX11_letter_52 : decode cX11_letter 52 = .ok (.goto 5, 3) := by decide +kernel
theorem dX11_letter_55 : decode cX11_letter 55 = .ok (.bipush (-2), 2) := by decide +kernel
theorem dX11_letter_57 : decode cX11_letter 57 = .ok (.ireturn, 1) := by decide +kernel
theorem dX11_count_0 : decode cX11_count 0 = .ok (.iload_n 1, 1) := by decide +kernel
theorem dX11_count_1 : decode cX11_count 1 = .ok (.tableswitch 121 0 8 #[51, 58, 65, 72, 77, 84, 89, 94, 116], 51) := by decide +kernel
theorem dX11_count_52 : decode cX11_count 52 = .ok (.aload_n 0, 1) := by decide +kernel
theorem dX11_count_53 : decode cX11_count 53 = .ok (.bipush 6, 2) := by decide +kernel
theorem dX11_count_55 : decode cX11_count 55 = .ok (.invokevirtual 164, 3) := by decide +kernel
theorem dX11_count_58 : decode cX11_count 58 = .ok (.ireturn, 1) := by decide +kernel
theorem dX11_count_59 : decode cX11_count 59 = .ok (.aload_n 0, 1) := by decide +kernel
theorem dX11_count_60 : decode cX11_count 60 = .ok (.bipush 7, 2) := by decide +kernel
theorem dX11_count_62 : decode cX11_count 62 = .ok (.invokevirtual 164, 3) := by decide +kernel
theorem dX11_count_65 : decode cX11_count 65 = .ok (.ireturn, 1) := by decide +kernel
theorem dX11_count_66 : decode cX11_count 66 = .ok (.aload_n 0, 1) := by decide +kernel
theorem dX11_count_67 : decode cX11_count 67 = .ok (.bipush 8, 2) := by decide +kernel
theorem dX11_count_69 : decode cX11_count 69 = .ok (.invokevirtual 164, 3) := by decide +kernel
theorem dX11_count_72 : decode cX11_count 72 = .ok (.ireturn, 1) := by decide +kernel
theorem dX11_count_73 : decode cX11_count 73 = .ok (.aload_n 0, 1) := by decide +kernel
theorem dX11_count_74 : decode cX11_count 74 = .ok (.invokevirtual 315, 3) := by decide +kernel
theorem dX11_count_77 : decode cX11_count 77 = .ok (.ireturn, 1) := by decide +kernel
theorem dX11_count_78 : decode cX11_count 78 = .ok (.aload_n 0, 1) := by decide +kernel
theorem dX11_count_79 : decode cX11_count 79 = .ok (.bipush 9, 2) := by decide +kernel
theorem dX11_count_81 : decode cX11_count 81 = .ok (.invokevirtual 164, 3) := by decide +kernel
theorem dX11_count_84 : decode cX11_count 84 = .ok (.ireturn, 1) := by decide +kernel
theorem dX11_count_85 : decode cX11_count 85 = .ok (.aload_n 0, 1) := by decide +kernel
theorem dX11_count_86 : decode cX11_count 86 = .ok (.getfield 158, 3) := by decide +kernel
theorem dX11_count_89 : decode cX11_count 89 = .ok (.ireturn, 1) := by decide +kernel
theorem dX11_count_90 : decode cX11_count 90 = .ok (.aload_n 0, 1) := by decide +kernel
theorem dX11_count_91 : decode cX11_count 91 = .ok (.getfield 64, 3) := by decide +kernel
theorem dX11_count_94 : decode cX11_count 94 = .ok (.ireturn, 1) := by decide +kernel
theorem dX11_count_95 : decode cX11_count 95 = .ok (.aload_n 0, 1) := by decide +kernel
theorem dX11_count_96 : decode cX11_count 96 = .ok (.getfield 25, 3) := by decide +kernel
theorem dX11_count_99 : decode cX11_count 99 = .ok (.iconst 0, 1) := by decide +kernel
theorem dX11_count_100 : decode cX11_count 100 = .ok (.baload, 1) := by decide +kernel
theorem dX11_count_101 : decode cX11_count 101 = .ok (.invokestatic 122, 3) := by decide +kernel
theorem dX11_count_104 : decode cX11_count 104 = .ok (.aload_n 0, 1) := by decide +kernel
theorem dX11_count_105 : decode cX11_count 105 = .ok (.getfield 25, 3) := by decide +kernel
theorem dX11_count_108 : decode cX11_count 108 = .ok (.iconst 1, 1) := by decide +kernel
theorem dX11_count_109 : decode cX11_count 109 = .ok (.baload, 1) := by decide +kernel
theorem dX11_count_110 : decode cX11_count 110 = .ok (.invokestatic 122, 3) := by decide +kernel
theorem dX11_count_113 : decode cX11_count 113 = .ok (.iconst 1, 1) := by decide +kernel
theorem dX11_count_114 : decode cX11_count 114 = .ok (.ishl, 1) := by decide +kernel
theorem dX11_count_115 : decode cX11_count 115 = .ok (.ior, 1) := by decide +kernel
theorem dX11_count_116 : decode cX11_count 116 = .ok (.ireturn, 1) := by decide +kernel
theorem dX11_count_117 : decode cX11_count 117 = .ok (.aload_n 0, 1) := by decide +kernel
theorem dX11_count_118 : decode cX11_count 118 = .ok (.getfield 353, 3) := by decide +kernel
theorem dX11_count_121 : decode cX11_count 121 = .ok (.ireturn, 1) := by decide +kernel
theorem dX11_count_122 : decode cX11_count 122 = .ok (.iconst (-1), 1) := by decide +kernel
theorem dX11_count_123 : decode cX11_count 123 = .ok (.ireturn, 1) := by decide +kernel
theorem dJxe99ae_isNaN_b9ae7_0 : decode cJxe99ae_isNaN_b9ae7 0 = .ok (.dload_n 0, 1) := by decide +kernel
theorem dJxe99ae_isNaN_b9ae7_1 : decode cJxe99ae_isNaN_b9ae7 1 = .ok (.dload_n 0, 1) := by decide +kernel
theorem dJxe99ae_isNaN_b9ae7_2 : decode cJxe99ae_isNaN_b9ae7 2 = .ok (.dcmp .l, 1) := by decide +kernel
theorem dJxe99ae_isNaN_b9ae7_3 : decode cJxe99ae_isNaN_b9ae7 3 = .ok (.ifCond .eq 7, 3) := by decide +kernel
theorem dJxe99ae_isNaN_b9ae7_6 : decode cJxe99ae_isNaN_b9ae7 6 = .ok (.iconst 1, 1) := by decide +kernel
theorem dJxe99ae_isNaN_b9ae7_7 : decode cJxe99ae_isNaN_b9ae7 7 = .ok (.goto 4, 3) := by decide +kernel
theorem dJxe99ae_isNaN_b9ae7_10 : decode cJxe99ae_isNaN_b9ae7 10 = .ok (.iconst 0, 1) := by decide +kernel
theorem dJxe99ae_isNaN_b9ae7_11 : decode cJxe99ae_isNaN_b9ae7 11 = .ok (.ireturn, 1) := by decide +kernel
theorem dJxe99ae_doubleToLongBits_ccdee_0 : decode cJxe99ae_doubleToLongBits_ccdee 0 = .ok (.dload_n 0, 1) := by decide +kernel
theorem dJxe99ae_doubleToLongBits_ccdee_1 : decode cJxe99ae_doubleToLongBits_ccdee 1 = .ok (.invokestatic 122, 3) := by decide +kernel
theorem dJxe99ae_doubleToLongBits_ccdee_4 : decode cJxe99ae_doubleToLongBits_ccdee 4 = .ok (.ifCond .ne 8, 3) := by decide +kernel
theorem dJxe99ae_doubleToLongBits_ccdee_7 : decode cJxe99ae_doubleToLongBits_ccdee 7 = .ok (.dload_n 0, 1) := by decide +kernel
theorem dJxe99ae_doubleToLongBits_ccdee_8 : decode cJxe99ae_doubleToLongBits_ccdee 8 = .ok (.invokestatic 134, 3) := by decide +kernel
theorem dJxe99ae_doubleToLongBits_ccdee_11 : decode cJxe99ae_doubleToLongBits_ccdee 11 = .ok (.lreturn, 1) := by decide +kernel
theorem dJxe99ae_doubleToLongBits_ccdee_12 : decode cJxe99ae_doubleToLongBits_ccdee 12 = .ok (.ldc2_w 137, 3) := by decide +kernel
theorem dJxe99ae_doubleToLongBits_ccdee_15 : decode cJxe99ae_doubleToLongBits_ccdee 15 = .ok (.lreturn, 1) := by decide +kernel
theorem dJxf58ca_isNaN_12338_0 : decode cJxf58ca_isNaN_12338 0 = .ok (.fload_n 0, 1) := by decide +kernel
theorem dJxf58ca_isNaN_12338_1 : decode cJxf58ca_isNaN_12338 1 = .ok (.fload_n 0, 1) := by decide +kernel
theorem dJxf58ca_isNaN_12338_2 : decode cJxf58ca_isNaN_12338 2 = .ok (.fcmp .l, 1) := by decide +kernel
theorem dJxf58ca_isNaN_12338_3 : decode cJxf58ca_isNaN_12338 3 = .ok (.ifCond .eq 7, 3) := by decide +kernel
theorem dJxf58ca_isNaN_12338_6 : decode cJxf58ca_isNaN_12338 6 = .ok (.iconst 1, 1) := by decide +kernel
theorem dJxf58ca_isNaN_12338_7 : decode cJxf58ca_isNaN_12338 7 = .ok (.goto 4, 3) := by decide +kernel
theorem dJxf58ca_isNaN_12338_10 : decode cJxf58ca_isNaN_12338 10 = .ok (.iconst 0, 1) := by decide +kernel
theorem dJxf58ca_isNaN_12338_11 : decode cJxf58ca_isNaN_12338 11 = .ok (.ireturn, 1) := by decide +kernel
theorem dJxf58ca_floatToIntBits_5c35a_0 : decode cJxf58ca_floatToIntBits_5c35a 0 = .ok (.fload_n 0, 1) := by decide +kernel
theorem dJxf58ca_floatToIntBits_5c35a_1 : decode cJxf58ca_floatToIntBits_5c35a 1 = .ok (.invokestatic 59, 3) := by decide +kernel
theorem dJxf58ca_floatToIntBits_5c35a_4 : decode cJxf58ca_floatToIntBits_5c35a 4 = .ok (.ifCond .ne 8, 3) := by decide +kernel
theorem dJxf58ca_floatToIntBits_5c35a_7 : decode cJxf58ca_floatToIntBits_5c35a 7 = .ok (.fload_n 0, 1) := by decide +kernel
theorem dJxf58ca_floatToIntBits_5c35a_8 : decode cJxf58ca_floatToIntBits_5c35a 8 = .ok (.invokestatic 74, 3) := by decide +kernel
theorem dJxf58ca_floatToIntBits_5c35a_11 : decode cJxf58ca_floatToIntBits_5c35a 11 = .ok (.ireturn, 1) := by decide +kernel
theorem dJxf58ca_floatToIntBits_5c35a_12 : decode cJxf58ca_floatToIntBits_5c35a 12 = .ok (.ldc 77, 2) := by decide +kernel
theorem dJxf58ca_floatToIntBits_5c35a_14 : decode cJxf58ca_floatToIntBits_5c35a 14 = .ok (.ireturn, 1) := by decide +kernel
theorem dJ9_max_7cf53_0 : decode cJ9_max_7cf53 0 = .ok (.iload_n 0, 1) := by decide +kernel
theorem dJ9_max_7cf53_1 : decode cJ9_max_7cf53 1 = .ok (.iload_n 1, 1) := by decide +kernel
theorem dJ9_max_7cf53_2 : decode cJ9_max_7cf53 2 = .ok (.if_icmp .lt 7, 3) := by decide +kernel
theorem dJ9_max_7cf53_5 : decode cJ9_max_7cf53 5 = .ok (.iload_n 0, 1) := by decide +kernel
theorem dJ9_max_7cf53_6 : decode cJ9_max_7cf53 6 = .ok (.goto 4, 3) := by decide +kernel
theorem dJ9_max_7cf53_9 : decode cJ9_max_7cf53 9 = .ok (.iload_n 1, 1) := by decide +kernel
theorem dJ9_max_7cf53_10 : decode cJ9_max_7cf53 10 = .ok (.ireturn, 1) := by decide +kernel
theorem dJ9_max_f86c9_0 : decode cJ9_max_f86c9 0 = .ok (.lload_n 0, 1) := by decide +kernel
theorem dJ9_max_f86c9_1 : decode cJ9_max_f86c9 1 = .ok (.lload_n 2, 1) := by decide +kernel
theorem dJ9_max_f86c9_2 : decode cJ9_max_f86c9 2 = .ok (.lcmp, 1) := by decide +kernel
theorem dJ9_max_f86c9_3 : decode cJ9_max_f86c9 3 = .ok (.ifCond .lt 7, 3) := by decide +kernel
theorem dJ9_max_f86c9_6 : decode cJ9_max_f86c9 6 = .ok (.lload_n 0, 1) := by decide +kernel
theorem dJ9_max_f86c9_7 : decode cJ9_max_f86c9 7 = .ok (.goto 4, 3) := by decide +kernel
theorem dJ9_max_f86c9_10 : decode cJ9_max_f86c9 10 = .ok (.lload_n 2, 1) := by decide +kernel
theorem dJ9_max_f86c9_11 : decode cJ9_max_f86c9 11 = .ok (.lreturn, 1) := by decide +kernel
theorem dJ9_min_7cf53_0 : decode cJ9_min_7cf53 0 = .ok (.iload_n 0, 1) := by decide +kernel
theorem dJ9_min_7cf53_1 : decode cJ9_min_7cf53 1 = .ok (.iload_n 1, 1) := by decide +kernel
theorem dJ9_min_7cf53_2 : decode cJ9_min_7cf53 2 = .ok (.if_icmp .gt 7, 3) := by decide +kernel
theorem dJ9_min_7cf53_5 : decode cJ9_min_7cf53 5 = .ok (.iload_n 0, 1) := by decide +kernel
theorem dJ9_min_7cf53_6 : decode cJ9_min_7cf53 6 = .ok (.goto 4, 3) := by decide +kernel
theorem dJ9_min_7cf53_9 : decode cJ9_min_7cf53 9 = .ok (.iload_n 1, 1) := by decide +kernel
theorem dJ9_min_7cf53_10 : decode cJ9_min_7cf53 10 = .ok (.ireturn, 1) := by decide +kernel
theorem dJ9_min_f86c9_0 : decode cJ9_min_f86c9 0 = .ok (.lload_n 0, 1) := by decide +kernel
theorem dJ9_min_f86c9_1 : decode cJ9_min_f86c9 1 = .ok (.lload_n 2, 1) := by decide +kernel
theorem dJ9_min_f86c9_2 : decode cJ9_min_f86c9 2 = .ok (.lcmp, 1) := by decide +kernel
theorem dJ9_min_f86c9_3 : decode cJ9_min_f86c9 3 = .ok (.ifCond .gt 7, 3) := by decide +kernel
theorem dJ9_min_f86c9_6 : decode cJ9_min_f86c9 6 = .ok (.lload_n 0, 1) := by decide +kernel
theorem dJ9_min_f86c9_7 : decode cJ9_min_f86c9 7 = .ok (.goto 4, 3) := by decide +kernel
theorem dJ9_min_f86c9_10 : decode cJ9_min_f86c9 10 = .ok (.lload_n 2, 1) := by decide +kernel
theorem dJ9_min_f86c9_11 : decode cJ9_min_f86c9 11 = .ok (.lreturn, 1) := by decide +kernel
theorem dJ0_length_8abf5_0 : decode cJ0_length_8abf5 0 = .ok (.aload_n 0, 1) := by decide +kernel
theorem dJ0_length_8abf5_1 : decode cJ0_length_8abf5 1 = .ok (.getfield 9, 3) := by decide +kernel
theorem dJ0_length_8abf5_4 : decode cJ0_length_8abf5 4 = .ok (.arraylength, 1) := by decide +kernel
theorem dJ0_length_8abf5_5 : decode cJ0_length_8abf5 5 = .ok (.aload_n 0, 1) := by decide +kernel
theorem dJ0_length_8abf5_6 : decode cJ0_length_8abf5 6 = .ok (.invokevirtual 335, 3) := by decide +kernel
theorem dJ0_length_8abf5_9 : decode cJ0_length_8abf5 9 = .ok (.ishr, 1) := by decide +kernel
theorem dJ0_length_8abf5_10 : decode cJ0_length_8abf5 10 = .ok (.ireturn, 1) := by decide +kernel
theorem dJ0_charAt_5068e_0 : decode cJ0_charAt_5068e 0 = .ok (.aload_n 0, 1) := by decide +kernel
theorem dJ0_charAt_5068e_1 : decode cJ0_charAt_5068e 1 = .ok (.invokevirtual 492, 3) := by decide +kernel
theorem dJ0_charAt_5068e_4 : decode cJ0_charAt_5068e 4 = .ok (.ifCond .eq 12, 3) := by decide +kernel
theorem dJ0_charAt_5068e_7 : decode cJ0_charAt_5068e 7 = .ok (.aload_n 0, 1) := by decide +kernel
theorem dJ0_charAt_5068e_8 : decode cJ0_charAt_5068e 8 = .ok (.getfield 9, 3) := by decide +kernel
theorem dJ0_charAt_5068e_11 : decode cJ0_charAt_5068e 11 = .ok (.iload_n 1, 1) := by decide +kernel
theorem dJ0_charAt_5068e_12 : decode cJ0_charAt_5068e 12 = .ok (.invokestatic 495, 3) := by decide +kernel
theorem dJ0_charAt_5068e_15 : decode cJ0_charAt_5068e 15 = .ok (.ireturn, 1) := by decide +kernel
theorem dJ0_charAt_5068e_16 : decode cJ0_charAt_5068e 16 = .ok (.aload_n 0, 1) := by decide +kernel
theorem dJ0_charAt_5068e_17 : decode cJ0_charAt_5068e 17 = .ok (.getfield 9, 3) := by decide +kernel
theorem dJ0_charAt_5068e_20 : decode cJ0_charAt_5068e 20 = .ok (.iload_n 1, 1) := by decide +kernel
theorem dJ0_charAt_5068e_21 : decode cJ0_charAt_5068e 21 = .ok (.invokestatic 498, 3) := by decide +kernel
theorem dJ0_charAt_5068e_24 : decode cJ0_charAt_5068e 24 = .ok (.ireturn, 1) := by decide +kernel
theorem dJ0_coder_7d493_0 : decode cJ0_coder_7d493 0 = .ok (.getstatic 38, 3) := by decide +kernel
theorem dJ0_coder_7d493_3 : decode cJ0_coder_7d493 3 = .ok (.ifCond .eq 10, 3) := by decide +kernel
theorem dJ0_coder_7d493_6 : decode cJ0_coder_7d493 6 = .ok (.aload_n 0, 1) := by decide +kernel
theorem dJ0_coder_7d493_7 : decode cJ0_coder_7d493 7 = .ok (.getfield 15, 3) := by decide +kernel
theorem dJ0_coder_7d493_10 : decode cJ0_coder_7d493 10 = .ok (.goto 4, 3) := by decide +kernel
theorem dJ0_coder_7d493_13 : decode cJ0_coder_7d493 13 = .ok (.iconst 1, 1) := by decide +kernel
theorem dJ0_coder_7d493_14 : decode cJ0_coder_7d493 14 = .ok (.ireturn, 1) := by decide +kernel
theorem dJ0_isLatin1_aae02_0 : decode cJ0_isLatin1_aae02 0 = .ok (.getstatic 38, 3) := by decide +kernel
theorem dJ0_isLatin1_aae02_3 : decode cJ0_isLatin1_aae02 3 = .ok (.ifCond .eq 14, 3) := by decide +kernel
theorem dJ0_isLatin1_aae02_6 : decode cJ0_isLatin1_aae02 6 = .ok (.aload_n 0, 1) := by decide +kernel
theorem dJ0_isLatin1_aae02_7 : decode cJ0_isLatin1_aae02 7 = .ok (.getfield 15, 3) := by decide +kernel
theorem dJ0_isLatin1_aae02_10 : decode cJ0_isLatin1_aae02 10 = .ok (.ifCond .ne 7, 3) := by decide +kernel
theorem dJ0_isLatin1_aae02_13 : decode cJ0_isLatin1_aae02 13 = .ok (.iconst 1, 1) := by decide +kernel
theorem dJ0_isLatin1_aae02_14 : decode cJ0_isLatin1_aae02 14 = .ok (.goto 4, 3) := by decide +kernel
theorem dJ0_isLatin1_aae02_17 : decode cJ0_isLatin1_aae02 17 = .ok (.iconst 0, 1) := by decide +kernel
theorem dJ0_isLatin1_aae02_18 : decode cJ0_isLatin1_aae02 18 = .ok (.ireturn, 1) := by decide +kernel
theorem dJ0_checkIndex_df160_0 : decode cJ0_checkIndex_df160 0 = .ok (.iload_n 0, 1) := by decide +kernel
theorem dJ0_checkIndex_df160_1 : decode cJ0_checkIndex_df160 1 = .ok (.iload_n 1, 1) := by decide +kernel
theorem dJ0_checkIndex_df160_2 : decode cJ0_checkIndex_df160 2 = .ok (.getstatic 1053, 3) := by decide +kernel
theorem dJ0_checkIndex_df160_5 : decode cJ0_checkIndex_df160 5 = .ok (.invokestatic 1059, 3) := by decide +kernel
theorem dJ0_checkIndex_df160_8 : decode cJ0_checkIndex_df160 8 = .ok (.pop, 1) := by decide +kernel
theorem dJ0_checkIndex_df160_9 : decode cJ0_checkIndex_df160 9 = .ok (.return_, 1) := by decide +kernel
theorem dJ1_charAt_3b067_0 : decode cJ1_charAt_3b067 0 = .ok (.iload_n 1, 1) := by decide +kernel
theorem dJ1_charAt_3b067_1 : decode cJ1_charAt_3b067 1 = .ok (.aload_n 0, 1) := by decide +kernel
theorem dJ1_charAt_3b067_2 : decode cJ1_charAt_3b067 2 = .ok (.arraylength, 1) := by decide +kernel
theorem dJ1_charAt_3b067_3 : decode cJ1_charAt_3b067 3 = .ok (.invokestatic 9, 3) := by decide +kernel
theorem dJ1_charAt_3b067_6 : decode cJ1_charAt_3b067 6 = .ok (.aload_n 0, 1) := by decide +kernel
theorem dJ1_charAt_3b067_7 : decode cJ1_charAt_3b067 7 = .ok (.iload_n 1, 1) := by decide +kernel
theorem dJ1_charAt_3b067_8 : decode cJ1_charAt_3b067 8 = .ok (.baload, 1) := by decide +kernel
theorem dJ1_charAt_3b067_9 : decode cJ1_charAt_3b067 9 = .ok (.sipush 255, 3) := by decide +kernel
theorem dJ1_charAt_3b067_12 : decode cJ1_charAt_3b067 12 = .ok (.iand, 1) := by decide +kernel
theorem dJ1_charAt_3b067_13 : decode cJ1_charAt_3b067 13 = .ok (.i2c, 1) := by decide +kernel
theorem dJ1_charAt_3b067_14 : decode cJ1_charAt_3b067 14 = .ok (.ireturn, 1) := by decide +kernel
theorem dJ2_getChar_3b067_0 : decode cJ2_getChar_3b067 0 = .ok (.getstatic 44, 3) := by decide +kernel
theorem dJ2_getChar_3b067_3 : decode cJ2_getChar_3b067 3 = .ok (.ifCond .ne 25, 3) := by decide +kernel
theorem dJ2_getChar_3b067_6 : decode cJ2_getChar_3b067 6 = .ok (.iload_n 1, 1) := by decide +kernel
theorem dJ2_getChar_3b067_7 : decode cJ2_getChar_3b067 7 = .ok (.ifCond .lt 11, 3) := by decide +kernel
theorem dJ2_getChar_3b067_10 : decode cJ2_getChar_3b067 10 = .ok (.iload_n 1, 1) := by decide +kernel
theorem dJ2_getChar_3b067_11 : decode cJ2_getChar_3b067 11 = .ok (.aload_n 0, 1) := by decide +kernel
theorem dJ2_getChar_3b067_12 : decode cJ2_getChar_3b067 12 = .ok (.invokestatic 48, 3) := by decide +kernel
theorem dJ2_getChar_3b067_15 : decode cJ2_getChar_3b067 15 = .ok (.if_icmp .lt 13, 3) := by decide +kernel
theorem dJ2_getChar_3b067_18 : decode cJ2_getChar_3b067 18 = .ok (.new 52, 3) := by decide +kernel
theorem dJ2_getChar_3b067_21 : decode cJ2_getChar_3b067 21 = .ok (.dup, 1) := by decide +kernel
theorem dJ2_getChar_3b067_22 : decode cJ2_getChar_3b067 22 = .ok (.ldc 54, 2) := by decide +kernel
theorem dJ2_getChar_3b067_24 : decode cJ2_getChar_3b067 24 = .ok (.invokespecial 56, 3) := by decide +kernel
theorem dJ2_getChar_3b067_27 : decode cJ2_getChar_3b067 27 = .ok (.athrow, 1) := by decide +kernel
theorem dJ2_getChar_3b067_28 : decode cJ2_getChar_3b067 28 = .ok (.iload_n 1, 1) := by decide +kernel
theorem dJ2_getChar_3b067_29 : decode cJ2_getChar_3b067 29 = .ok (.iconst 1, 1) := by decide +kernel
theorem dJ2_getChar_3b067_30 : decode cJ2_getChar_3b067 30 = .ok (.ishl, 1) := by decide +kernel
theorem dJ2_getChar_3b067_31 : decode cJ2_getChar_3b067 31 = .ok (.istore_n 1, 1) := by decide +kernel
theorem dJ2_getChar_3b067_32 : decode cJ2_getChar_3b067 32 = .ok (.aload_n 0, 1) := by decide +kernel
theorem dJ2_getChar_3b067_33 : decode cJ2_getChar_3b067 33 = .ok (.iload_n 1, 1) := by decide +kernel
theorem dJ2_getChar_3b067_34 : decode cJ2_getChar_3b067 34 = .ok (.iinc 1 1, 3) := by decide +kernel
theorem dJ2_getChar_3b067_37 : decode cJ2_getChar_3b067 37 = .ok (.baload, 1) := by decide +kernel
theorem dJ2_getChar_3b067_38 : decode cJ2_getChar_3b067 38 = .ok (.sipush 255, 3) := by decide +kernel
theorem dJ2_getChar_3b067_41 : decode cJ2_getChar_3b067 41 = .ok (.iand, 1) := by decide +kernel
theorem dJ2_getChar_3b067_42 : decode cJ2_getChar_3b067 42 = .ok (.getstatic 59, 3) := by decide +kernel
theorem dJ2_getChar_3b067_45 : decode cJ2_getChar_3b067 45 = .ok (.ishl, 1) := by decide +kernel
theorem dJ2_getChar_3b067_46 : decode cJ2_getChar_3b067 46 = .ok (.aload_n 0, 1) := by decide +kernel
theorem dJ2_getChar_3b067_47 : decode cJ2_getChar_3b067 47 = .ok (.iload_n 1, 1) := by decide +kernel
theorem dJ2_getChar_3b067_48 : decode cJ2_getChar_3b067 48 = .ok (.baload, 1) := by decide +kernel
theorem dJ2_getChar_3b067_49 : decode cJ2_getChar_3b067 49 = .ok (.sipush 255, 3) := by decide +kernel
theorem dJ2_getChar_3b067_52 : decode cJ2_getChar_3b067 52 = .ok (.iand, 1) := by decide +kernel
theorem dJ2_getChar_3b067_53 : decode cJ2_getChar_3b067 53 = .ok (.getstatic 63, 3) := by decide +kernel
theorem dJ2_getChar_3b067_56 : decode cJ2_getChar_3b067 56 = .ok (.ishl, 1) := by decide +kernel
theorem dJ2_getChar_3b067_57 : decode cJ2_getChar_3b067 57 = .ok (.ior, 1) := by decide +kernel
theorem dJ2_getChar_3b067_58 : decode cJ2_getChar_3b067 58 = .ok (.i2c, 1) := by decide +kernel
theorem dJ2_getChar_3b067_59 : decode cJ2_getChar_3b067 59 = .ok (.ireturn, 1) := by decide +kernel
theorem dJ2_length_9d52b_0 : decode cJ2_length_9d52b 0 = .ok (.aload_n 0, 1) := by decide +kernel
theorem dJ2_length_9d52b_1 : decode cJ2_length_9d52b 1 = .ok (.arraylength, 1) := by decide +kernel
theorem dJ2_length_9d52b_2 : decode cJ2_length_9d52b 2 = .ok (.iconst 1, 1) := by decide +kernel
theorem dJ2_length_9d52b_3 : decode cJ2_length_9d52b 3 = .ok (.ishr, 1) := by decide +kernel
theorem dJ2_length_9d52b_4 : decode cJ2_length_9d52b 4 = .ok (.ireturn, 1) := by decide +kernel
theorem dJ2_charAt_3b067_0 : decode cJ2_charAt_3b067 0 = .ok (.iload_n 1, 1) := by decide +kernel
theorem dJ2_charAt_3b067_1 : decode cJ2_charAt_3b067 1 = .ok (.aload_n 0, 1) := by decide +kernel
theorem dJ2_charAt_3b067_2 : decode cJ2_charAt_3b067 2 = .ok (.invokestatic 67, 3) := by decide +kernel
theorem dJ2_charAt_3b067_5 : decode cJ2_charAt_3b067 5 = .ok (.aload_n 0, 1) := by decide +kernel
theorem dJ2_charAt_3b067_6 : decode cJ2_charAt_3b067 6 = .ok (.iload_n 1, 1) := by decide +kernel
theorem dJ2_charAt_3b067_7 : decode cJ2_charAt_3b067 7 = .ok (.invokestatic 71, 3) := by decide +kernel
theorem dJ2_charAt_3b067_10 : decode cJ2_charAt_3b067 10 = .ok (.ireturn, 1) := by decide +kernel
theorem dJ2_checkIndex_2214a_0 : decode cJ2_checkIndex_2214a 0 = .ok (.iload_n 0, 1) := by decide +kernel
theorem dJ2_checkIndex_2214a_1 : decode cJ2_checkIndex_2214a 1 = .ok (.aload_n 1, 1) := by decide +kernel
theorem dJ2_checkIndex_2214a_2 : decode cJ2_checkIndex_2214a 2 = .ok (.invokestatic 48, 3) := by decide +kernel
theorem dJ2_checkIndex_2214a_5 : decode cJ2_checkIndex_2214a 5 = .ok (.invokestatic 414, 3) := by decide +kernel
theorem dJ2_checkIndex_2214a_8 : decode cJ2_checkIndex_2214a 8 = .ok (.return_, 1) := by decide +kernel
theorem dJ7_fill_d0a16_0 : decode cJ7_fill_d0a16 0 = .ok (.iconst 0, 1) := by decide +kernel
theorem dJ7_fill_d0a16_1 : decode cJ7_fill_d0a16 1 = .ok (.istore_n 3, 1) := by decide +kernel
theorem dJ7_fill_d0a16_2 : decode cJ7_fill_d0a16 2 = .ok (.aload_n 0, 1) := by decide +kernel
theorem dJ7_fill_d0a16_3 : decode cJ7_fill_d0a16 3 = .ok (.arraylength, 1) := by decide +kernel
theorem dJ7_fill_d0a16_4 : decode cJ7_fill_d0a16 4 = .ok (.istore 4, 2) := by decide +kernel
theorem dJ7_fill_d0a16_6 : decode cJ7_fill_d0a16 6 = .ok (.iload_n 3, 1) := by decide +kernel
theorem dJ7_fill_d0a16_7 : decode cJ7_fill_d0a16 7 = .ok (.iload 4, 2) := by decide +kernel
theorem dJ7_fill_d0a16_9 : decode cJ7_fill_d0a16 9 = .ok (.if_icmp .ge 13, 3) := by decide +kernel
theorem dJ7_fill_d0a16_12 : decode cJ7_fill_d0a16 12 = .ok (.aload_n 0, 1) := by decide +kernel
theorem dJ7_fill_d0a16_13 : decode cJ7_fill_d0a16 13 = .ok (.iload_n 3, 1) := by decide +kernel
theorem dJ7_fill_d0a16_14 : decode cJ7_fill_d0a16 14 = .ok (.lload_n 1, 1) := by decide +kernel
theorem dJ7_fill_d0a16_15 : decode cJ7_fill_d0a16 15 = .ok (.lastore, 1) := by decide +kernel
theorem dJ7_fill_d0a16_16 : decode cJ7_fill_d0a16 16 = .ok (.iinc 3 1, 3) := by decide +kernel
theorem dJ7_fill_d0a16_19 : decode cJ7_fill_d0a16 19 = .ok (.goto (-13), 3) := by decide +kernel
theorem dJ7_fill_d0a16_22 : decode cJ7_fill_d0a16 22 = .ok (.return_, 1) := by decide +kernel
theorem dJ7_fill_53178_0 : decode cJ7_fill_53178 0 = .ok (.iconst 0, 1) := by decide +kernel
theorem dJ7_fill_53178_1 : decode cJ7_fill_53178 1 = .ok (.istore_n 2, 1) := by decide +kernel
theorem dJ7_fill_53178_2 : decode cJ7_fill_53178 2 = .ok (.aload_n 0, 1) := by decide +kernel
theorem dJ7_fill_53178_3 : decode cJ7_fill_53178 3 = .ok (.arraylength, 1) := by decide +kernel
theorem dJ7_fill_53178_4 : decode cJ7_fill_53178 4 = .ok (.istore_n 3, 1) := by decide +kernel
theorem dJ7_fill_53178_5 : decode cJ7_fill_53178 5 = .ok (.iload_n 2, 1) := by decide +kernel
theorem dJ7_fill_53178_6 : decode cJ7_fill_53178 6 = .ok (.iload_n 3, 1) := by decide +kernel
theorem dJ7_fill_53178_7 : decode cJ7_fill_53178 7 = .ok (.if_icmp .ge 13, 3) := by decide +kernel
theorem dJ7_fill_53178_10 : decode cJ7_fill_53178 10 = .ok (.aload_n 0, 1) := by decide +kernel
theorem dJ7_fill_53178_11 : decode cJ7_fill_53178 11 = .ok (.iload_n 2, 1) := by decide +kernel
theorem dJ7_fill_53178_12 : decode cJ7_fill_53178 12 = .ok (.iload_n 1, 1) := by decide +kernel
theorem dJ7_fill_53178_13 : decode cJ7_fill_53178 13 = .ok (.iastore, 1) := by decide +kernel
theorem dJ7_fill_53178_14 : decode cJ7_fill_53178 14 = .ok (.iinc 2 1, 3) := by decide +kernel
theorem dJ7_fill_53178_17 : decode cJ7_fill_53178 17 = .ok (.goto (-12), 3) := by decide +kernel
theorem dJ7_fill_53178_20 : decode cJ7_fill_53178 20 = .ok (.return_, 1) := by decide +kernel
theorem dJ7_fill_7f8df_0 : decode cJ7_fill_7f8df 0 = .ok (.iconst 0, 1) := by decide +kernel
theorem dJ7_fill_7f8df_1 : decode cJ7_fill_7f8df 1 = .ok (.istore_n 3, 1) := by decide +kernel
theorem dJ7_fill_7f8df_2 : decode cJ7_fill_7f8df 2 = .ok (.aload_n 0, 1) := by decide +kernel
theorem dJ7_fill_7f8df_3 : decode cJ7_fill_7f8df 3 = .ok (.arraylength, 1) := by decide +kernel
theorem dJ7_fill_7f8df_4 : decode cJ7_fill_7f8df 4 = .ok (.istore 4, 2) := by decide +kernel
theorem dJ7_fill_7f8df_6 : decode cJ7_fill_7f8df 6 = .ok (.iload_n 3, 1) := by decide +kernel
theorem dJ7_fill_7f8df_7 : decode cJ7_fill_7f8df 7 = .ok (.iload 4, 2) := by decide +kernel
theorem dJ7_fill_7f8df_9 : decode cJ7_fill_7f8df 9 = .ok (.if_icmp .ge 13, 3) := by decide +kernel
theorem dJ7_fill_7f8df_12 : decode cJ7_fill_7f8df 12 = .ok (.aload_n 0, 1) := by decide +kernel
theorem dJ7_fill_7f8df_13 : decode cJ7_fill_7f8df 13 = .ok (.iload_n 3, 1) := by decide +kernel
theorem dJ7_fill_7f8df_14 : decode cJ7_fill_7f8df 14 = .ok (.dload_n 1, 1) := by decide +kernel
theorem dJ7_fill_7f8df_15 : decode cJ7_fill_7f8df 15 = .ok (.dastore, 1) := by decide +kernel
theorem dJ7_fill_7f8df_16 : decode cJ7_fill_7f8df 16 = .ok (.iinc 3 1, 3) := by decide +kernel
theorem dJ7_fill_7f8df_19 : decode cJ7_fill_7f8df 19 = .ok (.goto (-13), 3) := by decide +kernel
theorem dJ7_fill_7f8df_22 : decode cJ7_fill_7f8df 22 = .ok (.return_, 1) := by decide +kernel
theorem dJ3_checkIndex_8e157_0 : decode cJ3_checkIndex_8e157 0 = .ok (.iload_n 0, 1) := by decide +kernel
theorem dJ3_checkIndex_8e157_1 : decode cJ3_checkIndex_8e157 1 = .ok (.ifCond .lt 8, 3) := by decide +kernel
theorem dJ3_checkIndex_8e157_4 : decode cJ3_checkIndex_8e157 4 = .ok (.iload_n 0, 1) := by decide +kernel
theorem dJ3_checkIndex_8e157_5 : decode cJ3_checkIndex_8e157 5 = .ok (.iload_n 1, 1) := by decide +kernel
theorem dJ3_checkIndex_8e157_6 : decode cJ3_checkIndex_8e157 6 = .ok (.if_icmp .lt 10, 3) := by decide +kernel
theorem dJ3_checkIndex_8e157_9 : decode cJ3_checkIndex_8e157 9 = .ok (.aload_n 2, 1) := by decide +kernel
theorem dJ3_checkIndex_8e157_10 : decode cJ3_checkIndex_8e157 10 = .ok (.iload_n 0, 1) := by decide +kernel
theorem dJ3_checkIndex_8e157_11 : decode cJ3_checkIndex_8e157 11 = .ok (.iload_n 1, 1) := by decide +kernel
theorem dJ3_checkIndex_8e157_12 : decode cJ3_checkIndex_8e157 12 = .ok (.invokestatic 95, 3) := by decide +kernel
theorem dJ3_checkIndex_8e157_15 : decode cJ3_checkIndex_8e157 15 = .ok (.athrow, 1) := by decide +kernel
theorem dJ3_checkIndex_8e157_16 : decode cJ3_checkIndex_8e157 16 = .ok (.iload_n 0, 1) := by decide +kernel
theorem dJ3_checkIndex_8e157_17 : decode cJ3_checkIndex_8e157 17 = .ok (.ireturn, 1) := by decide +kernel
