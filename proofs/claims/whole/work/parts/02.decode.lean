theorem dX0_init_0 : decode cX0_init 0 = .ok (.aload_n 0, 1) := by decide +kernel
theorem dX0_init_1 : decode cX0_init 1 = .ok (.invokespecial 3, 3) := by decide +kernel
theorem dX0_init_4 : decode cX0_init 4 = .ok (.aload_n 0, 1) := by decide +kernel
theorem dX0_init_5 : decode cX0_init 5 = .ok (.iconst 0, 1) := by decide +kernel
theorem dX0_init_6 : decode cX0_init 6 = .ok (.putfield 9, 3) := by decide +kernel
theorem dX0_init_9 : decode cX0_init 9 = .ok (.aload_n 0, 1) := by decide +kernel
theorem dX0_init_10 : decode cX0_init 10 = .ok (.iconst 0, 1) := by decide +kernel
theorem dX0_init_11 : decode cX0_init 11 = .ok (.putfield 15, 3) := by decide +kernel
theorem dX0_init_14 : decode cX0_init 14 = .ok (.aload_n 0, 1) := by decide +kernel
theorem dX0_init_15 : decode cX0_init 15 = .ok (.iconst 0, 1) := by decide +kernel
theorem dX0_init_16 : decode cX0_init 16 = .ok (.putfield 18, 3) := by decide +kernel
theorem dX0_init_19 : decode cX0_init 19 = .ok (.aload_n 0, 1) := by decide +kernel
theorem dX0_init_20 : decode cX0_init 20 = .ok (.bipush 60, 2) := by decide +kernel
theorem dX0_init_22 : decode cX0_init 22 = .ok (.putfield 21, 3) := by decide +kernel
theorem dX0_init_25 : decode cX0_init 25 = .ok (.aload_n 0, 1) := by decide +kernel
theorem dX0_init_26 : decode cX0_init 26 = .ok (.sipush 200, 3) := by decide +kernel
theorem dX0_init_29 : decode cX0_init 29 = .ok (.putfield 24, 3) := by decide +kernel
theorem dX0_init_32 : decode cX0_init 32 = .ok (.aload_n 0, 1) := by decide +kernel
theorem dX0_init_33 : decode cX0_init 33 = .ok (.iconst 0, 1) := by decide +kernel
theorem dX0_init_34 : decode cX0_init 34 = .ok (.putfield 27, 3) := by decide +kernel
theorem dX0_init_37 : decode cX0_init 37 = .ok (.aload_n 0, 1) := by decide +kernel
theorem dX0_init_38 : decode cX0_init 38 = .ok (.iconst 0, 1) := by decide +kernel
theorem dX0_init_39 : decode cX0_init 39 = .ok (.putfield 30, 3) := by decide +kernel
theorem dX0_init_42 : decode cX0_init 42 = .ok (.aload_n 0, 1) := by decide +kernel
theorem dX0_init_43 : decode cX0_init 43 = .ok (.iconst 0, 1) := by decide +kernel
theorem dX0_init_44 : decode cX0_init 44 = .ok (.putfield 33, 3) := by decide +kernel
theorem dX0_init_47 : decode cX0_init 47 = .ok (.aload_n 0, 1) := by decide +kernel
theorem dX0_init_48 : decode cX0_init 48 = .ok (.iconst 0, 1) := by decide +kernel
theorem dX0_init_49 : decode cX0_init 49 = .ok (.putfield 36, 3) := by decide +kernel
theorem dX0_init_52 : decode cX0_init 52 = .ok (.return_, 1) := by decide +kernel
theorem dX0_begin_0 : decode cX0_begin 0 = .ok (.aload_n 0, 1) := by decide +kernel
theorem dX0_begin_1 : decode cX0_begin 1 = .ok (.iload_n 1, 1) := by decide +kernel
theorem dX0_begin_2 : decode cX0_begin 2 = .ok (.invokevirtual 39, 3) := by decide +kernel
theorem dX0_begin_5 : decode cX0_begin 5 = .ok (.aload_n 0, 1) := by decide +kernel
theorem dX0_begin_6 : decode cX0_begin 6 = .ok (.iload_n 2, 1) := by decide +kernel
theorem dX0_begin_7 : decode cX0_begin 7 = .ok (.putfield 18, 3) := by decide +kernel
theorem dX0_begin_10 : decode cX0_begin 10 = .ok (.aload_n 0, 1) := by decide +kernel
theorem dX0_begin_11 : decode cX0_begin 11 = .ok (.bipush 60, 2) := by decide +kernel
theorem dX0_begin_13 : decode cX0_begin 13 = .ok (.putfield 21, 3) := by decide +kernel
theorem dX0_begin_16 : decode cX0_begin 16 = .ok (.aload_n 0, 1) := by decide +kernel
theorem dX0_begin_17 : decode cX0_begin 17 = .ok (.sipush 200, 3) := by decide +kernel
theorem dX0_begin_20 : decode cX0_begin 20 = .ok (.putfield 24, 3) := by decide +kernel
theorem dX0_begin_23 : decode cX0_begin 23 = .ok (.aload_n 0, 1) := by decide +kernel
theorem dX0_begin_24 : decode cX0_begin 24 = .ok (.iconst 0, 1) := by decide +kernel
theorem dX0_begin_25 : decode cX0_begin 25 = .ok (.putfield 27, 3) := by decide +kernel
theorem dX0_begin_28 : decode cX0_begin 28 = .ok (.aload_n 0, 1) := by decide +kernel
theorem dX0_begin_29 : decode cX0_begin 29 = .ok (.iload_n 3, 1) := by decide +kernel
theorem dX0_begin_30 : decode cX0_begin 30 = .ok (.bipush 10, 2) := by decide +kernel
theorem dX0_begin_32 : decode cX0_begin 32 = .ok (.idiv, 1) := by decide +kernel
theorem dX0_begin_33 : decode cX0_begin 33 = .ok (.putfield 30, 3) := by decide +kernel
theorem dX0_begin_36 : decode cX0_begin 36 = .ok (.aload_n 0, 1) := by decide +kernel
theorem dX0_begin_37 : decode cX0_begin 37 = .ok (.iload_n 3, 1) := by decide +kernel
theorem dX0_begin_38 : decode cX0_begin 38 = .ok (.bipush 10, 2) := by decide +kernel
theorem dX0_begin_40 : decode cX0_begin 40 = .ok (.irem, 1) := by decide +kernel
theorem dX0_begin_41 : decode cX0_begin 41 = .ok (.putfield 33, 3) := by decide +kernel
theorem dX0_begin_44 : decode cX0_begin 44 = .ok (.aload_n 0, 1) := by decide +kernel
theorem dX0_begin_45 : decode cX0_begin 45 = .ok (.iconst 0, 1) := by decide +kernel
theorem dX0_begin_46 : decode cX0_begin 46 = .ok (.putfield 36, 3) := by decide +kernel
theorem dX0_begin_49 : decode cX0_begin 49 = .ok (.return_, 1) := by decide +kernel
theorem dX0_setEdge_0 : decode cX0_setEdge 0 = .ok (.aload_n 0, 1) := by decide +kernel
theorem dX0_setEdge_1 : decode cX0_setEdge 1 = .ok (.iload_n 1, 1) := by decide +kernel
theorem dX0_setEdge_2 : decode cX0_setEdge 2 = .ok (.bipush 10, 2) := by decide +kernel
theorem dX0_setEdge_4 : decode cX0_setEdge 4 = .ok (.idiv, 1) := by decide +kernel
theorem dX0_setEdge_5 : decode cX0_setEdge 5 = .ok (.putfield 9, 3) := by decide +kernel
theorem dX0_setEdge_8 : decode cX0_setEdge 8 = .ok (.aload_n 0, 1) := by decide +kernel
theorem dX0_setEdge_9 : decode cX0_setEdge 9 = .ok (.iload_n 1, 1) := by decide +kernel
theorem dX0_setEdge_10 : decode cX0_setEdge 10 = .ok (.bipush 10, 2) := by decide +kernel
theorem dX0_setEdge_12 : decode cX0_setEdge 12 = .ok (.irem, 1) := by decide +kernel
theorem dX0_setEdge_13 : decode cX0_setEdge 13 = .ok (.putfield 15, 3) := by decide +kernel
theorem dX0_setEdge_16 : decode cX0_setEdge 16 = .ok (.return_, 1) := by decide +kernel
theorem dX0_copyFrom_0 : decode cX0_copyFrom 0 = .ok (.aload_n 0, 1) := by decide +kernel
theorem dX0_copyFrom_1 : decode cX0_copyFrom 1 = .ok (.aload_n 1, 1) := by decide +kernel
theorem dX0_copyFrom_2 : decode cX0_copyFrom 2 = .ok (.getfield 9, 3) := by decide +kernel
theorem dX0_copyFrom_5 : decode cX0_copyFrom 5 = .ok (.putfield 9, 3) := by decide +kernel
theorem dX0_copyFrom_8 : decode cX0_copyFrom 8 = .ok (.aload_n 0, 1) := by decide +kernel
theorem dX0_copyFrom_9 : decode cX0_copyFrom 9 = .ok (.aload_n 1, 1) := by decide +kernel
theorem dX0_copyFrom_10 : decode cX0_copyFrom 10 = .ok (.getfield 15, 3) := by decide +kernel
theorem dX0_copyFrom_13 : decode cX0_copyFrom 13 = .ok (.putfield 15, 3) := by decide +kernel
theorem dX0_copyFrom_16 : decode cX0_copyFrom 16 = .ok (.aload_n 0, 1) := by decide +kernel
theorem dX0_copyFrom_17 : decode cX0_copyFrom 17 = .ok (.aload_n 1, 1) := by decide +kernel
theorem dX0_copyFrom_18 : decode cX0_copyFrom 18 = .ok (.getfield 18, 3) := by decide +kernel
theorem dX0_copyFrom_21 : decode cX0_copyFrom 21 = .ok (.putfield 18, 3) := by decide +kernel
theorem dX0_copyFrom_24 : decode cX0_copyFrom 24 = .ok (.aload_n 0, 1) := by decide +kernel
theorem dX0_copyFrom_25 : decode cX0_copyFrom 25 = .ok (.aload_n 1, 1) := by decide +kernel
theorem dX0_copyFrom_26 : decode cX0_copyFrom 26 = .ok (.getfield 21, 3) := by decide +kernel
theorem dX0_copyFrom_29 : decode cX0_copyFrom 29 = .ok (.putfield 21, 3) := by decide +kernel
theorem dX0_copyFrom_32 : decode cX0_copyFrom 32 = .ok (.aload_n 0, 1) := by decide +kernel
theorem dX0_copyFrom_33 : decode cX0_copyFrom 33 = .ok (.aload_n 1, 1) := by decide +kernel
theorem dX0_copyFrom_34 : decode cX0_copyFrom 34 = .ok (.getfield 24, 3) := by decide +kernel
theorem dX0_copyFrom_37 : decode cX0_copyFrom 37 = .ok (.putfield 24, 3) := by decide +kernel
theorem dX0_copyFrom_40 : decode cX0_copyFrom 40 = .ok (.aload_n 0, 1) := by decide +kernel
theorem dX0_copyFrom_41 : decode cX0_copyFrom 41 = .ok (.aload_n 1, 1) := by decide +kernel
theorem dX0_copyFrom_42 : decode cX0_copyFrom 42 = .ok (.getfield 27, 3) := by decide +kernel
theorem dX0_copyFrom_45 : decode cX0_copyFrom 45 = .ok (.putfield 27, 3) := by decide +kernel
theorem dX0_copyFrom_48 : decode cX0_copyFrom 48 = .ok (.aload_n 0, 1) := by decide +kernel
theorem dX0_copyFrom_49 : decode cX0_copyFrom 49 = .ok (.aload_n 1, 1) := by decide +kernel
theorem dX0_copyFrom_50 : decode cX0_copyFrom 50 = .ok (.getfield 30, 3) := by decide +kernel
theorem dX0_copyFrom_53 : decode cX0_copyFrom 53 = .ok (.putfield 30, 3) := by decide +kernel
theorem dX0_copyFrom_56 : decode cX0_copyFrom 56 = .ok (.aload_n 0, 1) := by decide +kernel
theorem dX0_copyFrom_57 : decode cX0_copyFrom 57 = .ok (.aload_n 1, 1) := by decide +kernel
theorem dX0_copyFrom_58 : decode cX0_copyFrom 58 = .ok (.getfield 33, 3) := by decide +kernel
theorem dX0_copyFrom_61 : decode cX0_copyFrom 61 = .ok (.putfield 33, 3) := by decide +kernel
theorem dX0_copyFrom_64 : decode cX0_copyFrom 64 = .ok (.aload_n 0, 1) := by decide +kernel
theorem dX0_copyFrom_65 : decode cX0_copyFrom 65 = .ok (.aload_n 1, 1) := by decide +kernel
theorem dX0_copyFrom_66 : decode cX0_copyFrom 66 = .ok (.getfield 36, 3) := by decide +kernel
theorem dX0_copyFrom_69 : decode cX0_copyFrom 69 = .ok (.putfield 36, 3) := by decide +kernel
theorem dX0_copyFrom_72 : decode cX0_copyFrom 72 = .ok (.return_, 1) := by decide +kernel
theorem dX0_part_0 : decode cX0_part 0 = .ok (.iload_n 1, 1) := by decide +kernel
theorem dX0_part_1 : decode cX0_part 1 = .ok (.tableswitch 87 0 7 #[47, 52, 57, 62, 67, 72, 77, 82], 47) := by decide +kernel
theorem dX0_part_48 : decode cX0_part 48 = .ok (.aload_n 0, 1) := by decide +kernel
theorem dX0_part_49 : decode cX0_part 49 = .ok (.getfield 9, 3) := by decide +kernel
theorem dX0_part_52 : decode cX0_part 52 = .ok (.ireturn, 1) := by decide +kernel
theorem dX0_part_53 : decode cX0_part 53 = .ok (.aload_n 0, 1) := by decide +kernel
theorem dX0_part_54 : decode cX0_part 54 = .ok (.getfield 15, 3) := by decide +kernel
theorem dX0_part_57 : decode cX0_part 57 = .ok (.ireturn, 1) := by decide +kernel
theorem dX0_part_58 : decode cX0_part 58 = .ok (.aload_n 0, 1) := by decide +kernel
theorem dX0_part_59 : decode cX0_part 59 = .ok (.getfield 18, 3) := by decide +kernel
theorem dX0_part_62 : decode cX0_part 62 = .ok (.ireturn, 1) := by decide +kernel
theorem dX0_part_63 : decode cX0_part 63 = .ok (.aload_n 0, 1) := by decide +kernel
theorem dX0_part_64 : decode cX0_part 64 = .ok (.getfield 21, 3) := by decide +kernel
theorem dX0_part_67 : decode cX0_part 67 = .ok (.ireturn, 1) := by decide +kernel
theorem dX0_part_68 : decode cX0_part 68 = .ok (.aload_n 0, 1) := by decide +kernel
theorem dX0_part_69 : decode cX0_part 69 = .ok (.getfield 24, 3) := by decide +kernel
theorem dX0_part_72 : decode cX0_part 72 = .ok (.ireturn, 1) := by decide +kernel
theorem dX0_part_73 : decode cX0_part 73 = .ok (.aload_n 0, 1) := by decide +kernel
theorem dX0_part_74 : decode cX0_part 74 = .ok (.getfield 27, 3) := by decide +kernel
theorem dX0_part_77 : decode cX0_part 77 = .ok (.ireturn, 1) := by decide +kernel
theorem dX0_part_78 : decode cX0_part 78 = .ok (.aload_n 0, 1) := by decide +kernel
theorem dX0_part_79 : decode cX0_part 79 = .ok (.getfield 30, 3) := by decide +kernel
theorem dX0_part_82 : decode cX0_part 82 = .ok (.ireturn, 1) := by decide +kernel
theorem dX0_part_83 : decode cX0_part 83 = .ok (.aload_n 0, 1) := by decide +kernel
theorem dX0_part_84 : decode cX0_part 84 = .ok (.getfield 33, 3) := by decide +kernel
theorem dX0_part_87 : decode cX0_part 87 = .ok (.ireturn, 1) := by decide +kernel
theorem dX0_part_88 : decode cX0_part 88 = .ok (.aload_n 0, 1) := by decide +kernel
theorem dX0_part_89 : decode cX0_part 89 = .ok (.getfield 36, 3) := by decide +kernel
theorem dX0_part_92 : decode cX0_part 92 = .ok (.ireturn, 1) := by decide +kernel
theorem dX0_setPart_0 : decode cX0_setPart 0 = .ok (.iload_n 1, 1) := by decide +kernel
theorem dX0_setPart_1 : decode cX0_setPart 1 = .ok (.tableswitch 75 2 6 #[35, 43, 51, 59, 67], 35) := by decide +kernel
theorem dX0_setPart_36 : decode cX0_setPart 36 = .ok (.aload_n 0, 1) := by decide +kernel
theorem dX0_setPart_37 : decode cX0_setPart 37 = .ok (.iload_n 2, 1) := by decide +kernel
theorem dX0_setPart_38 : decode cX0_setPart 38 = .ok (.putfield 18, 3) := by decide +kernel
theorem dX0_setPart_41 : decode cX0_setPart 41 = .ok (.goto 40, 3) := by decide +kernel
theorem dX0_setPart_44 : decode cX0_setPart 44 = .ok (.aload_n 0, 1) := by decide +kernel
theorem dX0_setPart_45 : decode cX0_setPart 45 = .ok (.iload_n 2, 1) := by decide +kernel
theorem dX0_setPart_46 : decode cX0_setPart 46 = .ok (.putfield 21, 3) := by decide +kernel
theorem dX0_setPart_49 : decode cX0_setPart 49 = .ok (.goto 32, 3) := by decide +kernel
theorem dX0_setPart_52 : decode cX0_setPart 52 = .ok (.aload_n 0, 1) := by decide +kernel
theorem dX0_setPart_53 : decode cX0_setPart 53 = .ok (.iload_n 2, 1) := by decide +kernel
theorem dX0_setPart_54 : decode cX0_setPart 54 = .ok (.putfield 24, 3) := by decide +kernel
theorem dX0_setPart_57 : decode cX0_setPart 57 = .ok (.goto 24, 3) := by decide +kernel
theorem dX0_setPart_60 : decode cX0_setPart 60 = .ok (.aload_n 0, 1) := by decide +kernel
theorem dX0_setPart_61 : decode cX0_setPart 61 = .ok (.iload_n 2, 1) := by decide +kernel
theorem dX0_setPart_62 : decode cX0_setPart 62 = .ok (.putfield 27, 3) := by decide +kernel
theorem dX0_setPart_65 : decode cX0_setPart 65 = .ok (.goto 16, 3) := by decide +kernel
theorem dX0_setPart_68 : decode cX0_setPart 68 = .ok (.aload_n 0, 1) := by decide +kernel
theorem dX0_setPart_69 : decode cX0_setPart 69 = .ok (.iload_n 2, 1) := by decide +kernel
theorem dX0_setPart_70 : decode cX0_setPart 70 = .ok (.putfield 30, 3) := by decide +kernel
theorem dX0_setPart_73 : decode cX0_setPart 73 = .ok (.goto 8, 3) := by decide +kernel
theorem dX0_setPart_76 : decode cX0_setPart 76 = .ok (.aload_n 0, 1) := by decide +kernel
theorem dX0_setPart_77 : decode cX0_setPart 77 = .ok (.iload_n 2, 1) := by decide +kernel
theorem dX0_setPart_78 : decode cX0_setPart 78 = .ok (.putfield 33, 3) := by decide +kernel
theorem dX0_setPart_81 : decode cX0_setPart 81 = .ok (.return_, 1) := by decide +kernel
theorem dX0_edgeDulls_0 : decode cX0_edgeDulls 0 = .ok (.aload_n 0, 1) := by decide +kernel
theorem dX0_edgeDulls_1 : decode cX0_edgeDulls 1 = .ok (.getfield 21, 3) := by decide +kernel
theorem dX0_edgeDulls_4 : decode cX0_edgeDulls 4 = .ok (.bipush 20, 2) := by decide +kernel
theorem dX0_edgeDulls_6 : decode cX0_edgeDulls 6 = .ok (.if_icmp .lt 7, 3) := by decide +kernel
theorem dX0_edgeDulls_9 : decode cX0_edgeDulls 9 = .ok (.iconst 1, 1) := by decide +kernel
theorem dX0_edgeDulls_10 : decode cX0_edgeDulls 10 = .ok (.goto 4, 3) := by decide +kernel
theorem dX0_edgeDulls_13 : decode cX0_edgeDulls 13 = .ok (.iconst 0, 1) := by decide +kernel
theorem dX0_edgeDulls_14 : decode cX0_edgeDulls 14 = .ok (.istore_n 1, 1) := by decide +kernel
theorem dX0_edgeDulls_15 : decode cX0_edgeDulls 15 = .ok (.aload_n 0, 1) := by decide +kernel
theorem dX0_edgeDulls_16 : decode cX0_edgeDulls 16 = .ok (.getfield 9, 3) := by decide +kernel
theorem dX0_edgeDulls_19 : decode cX0_edgeDulls 19 = .ok (.tableswitch 83 1 6 #[37, 46, 51, 53, 67, 79], 37) := by decide +kernel
theorem dX0_edgeDulls_56 : decode cX0_edgeDulls 56 = .ok (.iconst 2, 1) := by decide +kernel
theorem dX0_edgeDulls_57 : decode cX0_edgeDulls 57 = .ok (.iconst 1, 1) := by decide +kernel
theorem dX0_edgeDulls_58 : decode cX0_edgeDulls 58 = .ok (.aload_n 0, 1) := by decide +kernel
theorem dX0_edgeDulls_59 : decode cX0_edgeDulls 59 = .ok (.getfield 33, 3) := by decide +kernel
theorem dX0_edgeDulls_62 : decode cX0_edgeDulls 62 = .ok (.iadd, 1) := by decide +kernel
theorem dX0_edgeDulls_63 : decode cX0_edgeDulls 63 = .ok (.imul, 1) := by decide +kernel
theorem dX0_edgeDulls_64 : decode cX0_edgeDulls 64 = .ok (.ireturn, 1) := by decide +kernel
theorem dX0_edgeDulls_65 : decode cX0_edgeDulls 65 = .ok (.aload_n 0, 1) := by decide +kernel
theorem dX0_edgeDulls_66 : decode cX0_edgeDulls 66 = .ok (.getfield 33, 3) := by decide +kernel
theorem dX0_edgeDulls_69 : decode cX0_edgeDulls 69 = .ok (.ireturn, 1) := by decide +kernel
theorem dX0_edgeDulls_70 : decode cX0_edgeDulls 70 = .ok (.iload_n 1, 1) := by decide +kernel
theorem dX0_edgeDulls_71 : decode cX0_edgeDulls 71 = .ok (.ireturn, 1) := by decide +kernel
theorem dX0_edgeDulls_72 : decode cX0_edgeDulls 72 = .ok (.iconst 2, 1) := by decide +kernel
theorem dX0_edgeDulls_73 : decode cX0_edgeDulls 73 = .ok (.iconst 1, 1) := by decide +kernel
theorem dX0_edgeDulls_74 : decode cX0_edgeDulls 74 = .ok (.aload_n 0, 1) := by decide +kernel
theorem dX0_edgeDulls_75 : decode cX0_edgeDulls 75 = .ok (.getfield 33, 3) := by decide +kernel
theorem dX0_edgeDulls_78 : decode cX0_edgeDulls 78 = .ok (.iadd, 1) := by decide +kernel
theorem dX0_edgeDulls_79 : decode cX0_edgeDulls 79 = .ok (.imul, 1) := by decide +kernel
theorem dX0_edgeDulls_80 : decode cX0_edgeDulls 80 = .ok (.aload_n 0, 1) := by decide +kernel
theorem dX0_edgeDulls_81 : decode cX0_edgeDulls 81 = .ok (.getfield 15, 3) := by decide +kernel
theorem dX0_edgeDulls_84 : decode cX0_edgeDulls 84 = .ok (.iadd, 1) := by decide +kernel
theorem dX0_edgeDulls_85 : decode cX0_edgeDulls 85 = .ok (.ireturn, 1) := by decide +kernel
theorem dX0_edgeDulls_86 : decode cX0_edgeDulls 86 = .ok (.aload_n 0, 1) := by decide +kernel
theorem dX0_edgeDulls_87 : decode cX0_edgeDulls 87 = .ok (.getfield 33, 3) := by decide +kernel
theorem dX0_edgeDulls_90 : decode cX0_edgeDulls 90 = .ok (.aload_n 0, 1) := by decide +kernel
theorem dX0_edgeDulls_91 : decode cX0_edgeDulls 91 = .ok (.getfield 15, 3) := by decide +kernel
theorem dX0_edgeDulls_94 : decode cX0_edgeDulls 94 = .ok (.iconst 2, 1) := by decide +kernel
theorem dX0_edgeDulls_95 : decode cX0_edgeDulls 95 = .ok (.idiv, 1) := by decide +kernel
theorem dX0_edgeDulls_96 : decode cX0_edgeDulls 96 = .ok (.iadd, 1) := by decide +kernel
theorem dX0_edgeDulls_97 : decode cX0_edgeDulls 97 = .ok (.ireturn, 1) := by decide +kernel
theorem dX0_edgeDulls_98 : decode cX0_edgeDulls 98 = .ok (.iconst 2, 1) := by decide +kernel
theorem dX0_edgeDulls_99 : decode cX0_edgeDulls 99 = .ok (.iload_n 1, 1) := by decide +kernel
theorem dX0_edgeDulls_100 : decode cX0_edgeDulls 100 = .ok (.imul, 1) := by decide +kernel
theorem dX0_edgeDulls_101 : decode cX0_edgeDulls 101 = .ok (.ireturn, 1) := by decide +kernel
theorem dX0_edgeDulls_102 : decode cX0_edgeDulls 102 = .ok (.iconst 1, 1) := by decide +kernel
theorem dX0_edgeDulls_103 : decode cX0_edgeDulls 103 = .ok (.aload_n 0, 1) := by decide +kernel
theorem dX0_edgeDulls_104 : decode cX0_edgeDulls 104 = .ok (.getfield 33, 3) := by decide +kernel
theorem dX0_edgeDulls_107 : decode cX0_edgeDulls 107 = .ok (.iadd, 1) := by decide +kernel
theorem dX0_edgeDulls_108 : decode cX0_edgeDulls 108 = .ok (.ireturn, 1) := by decide +kernel
theorem dX0_gainsOn_0 : decode cX0_gainsOn 0 = .ok (.bipush 8, 2) := by decide +kernel
theorem dX0_gainsOn_2 : decode cX0_gainsOn 2 = .ok (.iconst 2, 1) := by decide +kernel
theorem dX0_gainsOn_3 : decode cX0_gainsOn 3 = .ok (.iload_n 1, 1) := by decide +kernel
theorem dX0_gainsOn_4 : decode cX0_gainsOn 4 = .ok (.imul, 1) := by decide +kernel
theorem dX0_gainsOn_5 : decode cX0_gainsOn 5 = .ok (.isub, 1) := by decide +kernel
theorem dX0_gainsOn_6 : decode cX0_gainsOn 6 = .ok (.istore_n 2, 1) := by decide +kernel
theorem dX0_gainsOn_7 : decode cX0_gainsOn 7 = .ok (.iload_n 1, 1) := by decide +kernel
theorem dX0_gainsOn_8 : decode cX0_gainsOn 8 = .ok (.ifCond .ne 9, 3) := by decide +kernel
theorem dX0_gainsOn_11 : decode cX0_gainsOn 11 = .ok (.iload_n 2, 1) := by decide +kernel
theorem dX0_gainsOn_12 : decode cX0_gainsOn 12 = .ok (.iconst 1, 1) := by decide +kernel
theorem dX0_gainsOn_13 : decode cX0_gainsOn 13 = .ok (.iadd, 1) := by decide +kernel
theorem dX0_gainsOn_14 : decode cX0_gainsOn 14 = .ok (.goto 4, 3) := by decide +kernel
theorem dX0_gainsOn_17 : decode cX0_gainsOn 17 = .ok (.iload_n 2, 1) := by decide +kernel
theorem dX0_gainsOn_18 : decode cX0_gainsOn 18 = .ok (.istore_n 3, 1) := by decide +kernel
theorem dX0_gainsOn_19 : decode cX0_gainsOn 19 = .ok (.aload_n 0, 1) := by decide +kernel
theorem dX0_gainsOn_20 : decode cX0_gainsOn 20 = .ok (.getfield 9, 3) := by decide +kernel
theorem dX0_gainsOn_23 : decode cX0_gainsOn 23 = .ok (.tableswitch 56 2 6 #[33, 35, 39, 43, 54], 33) := by decide +kernel
theorem dX0_gainsOn_56 : decode cX0_gainsOn 56 = .ok (.iload_n 3, 1) := by decide +kernel
theorem dX0_gainsOn_57 : decode cX0_gainsOn 57 = .ok (.ireturn, 1) := by decide +kernel
theorem dX0_gainsOn_58 : decode cX0_gainsOn 58 = .ok (.iload_n 2, 1) := by decide +kernel
theorem dX0_gainsOn_59 : decode cX0_gainsOn 59 = .ok (.iconst 1, 1) := by decide +kernel
theorem dX0_gainsOn_60 : decode cX0_gainsOn 60 = .ok (.isub, 1) := by decide +kernel
theorem dX0_gainsOn_61 : decode cX0_gainsOn 61 = .ok (.ireturn, 1) := by decide +kernel
theorem dX0_gainsOn_62 : decode cX0_gainsOn 62 = .ok (.iload_n 2, 1) := by decide +kernel
theorem dX0_gainsOn_63 : decode cX0_gainsOn 63 = .ok (.iconst 2, 1) := by decide +kernel
theorem dX0_gainsOn_64 : decode cX0_gainsOn 64 = .ok (.idiv, 1) := by decide +kernel
theorem dX0_gainsOn_65 : decode cX0_gainsOn 65 = .ok (.ireturn, 1) := by decide +kernel
theorem dX0_gainsOn_66 : decode cX0_gainsOn 66 = .ok (.iload_n 1, 1) := by decide +kernel
theorem dX0_gainsOn_67 : decode cX0_gainsOn 67 = .ok (.iconst 1, 1) := by decide +kernel
theorem dX0_gainsOn_68 : decode cX0_gainsOn 68 = .ok (.if_icmp .gt 7, 3) := by decide +kernel
theorem dX0_gainsOn_71 : decode cX0_gainsOn 71 = .ok (.iload_n 3, 1) := by decide +kernel
theorem dX0_gainsOn_72 : decode cX0_gainsOn 72 = .ok (.goto 4, 3) := by decide +kernel
theorem dX0_gainsOn_75 : decode cX0_gainsOn 75 = .ok (.iconst 0, 1) := by decide +kernel
theorem dX0_gainsOn_76 : decode cX0_gainsOn 76 = .ok (.ireturn, 1) := by decide +kernel
theorem dX0_gainsOn_77 : decode cX0_gainsOn 77 = .ok (.iconst 1, 1) := by decide +kernel
theorem dX0_gainsOn_78 : decode cX0_gainsOn 78 = .ok (.ireturn, 1) := by decide +kernel
theorem dX0_gainsOn_79 : decode cX0_gainsOn 79 = .ok (.iload_n 2, 1) := by decide +kernel
theorem dX0_gainsOn_80 : decode cX0_gainsOn 80 = .ok (.ireturn, 1) := by decide +kernel
theorem dX0_grind_0 : decode cX0_grind 0 = .ok (.iconst 0, 1) := by decide +kernel
theorem dX0_grind_1 : decode cX0_grind 1 = .ok (.istore 4, 2) := by decide +kernel
theorem dX0_grind_3 : decode cX0_grind 3 = .ok (.iload 4, 2) := by decide +kernel
theorem dX0_grind_5 : decode cX0_grind 5 = .ok (.iload_n 2, 1) := by decide +kernel
theorem dX0_grind_6 : decode cX0_grind 6 = .ok (.if_icmp .ge 19, 3) := by decide +kernel
theorem dX0_grind_9 : decode cX0_grind 9 = .ok (.aload_n 0, 1) := by decide +kernel
theorem dX0_grind_10 : decode cX0_grind 10 = .ok (.iload_n 1, 1) := by decide +kernel
theorem dX0_grind_11 : decode cX0_grind 11 = .ok (.iload_n 3, 1) := by decide +kernel
theorem dX0_grind_12 : decode cX0_grind 12 = .ok (.invokevirtual 43, 3) := by decide +kernel
theorem dX0_grind_15 : decode cX0_grind 15 = .ok (.aload_n 0, 1) := by decide +kernel
theorem dX0_grind_16 : decode cX0_grind 16 = .ok (.invokevirtual 47, 3) := by decide +kernel
theorem dX0_grind_19 : decode cX0_grind 19 = .ok (.iinc 4 1, 3) := by decide +kernel
theorem dX0_grind_22 : decode cX0_grind 22 = .ok (.goto (-19), 3) := by decide +kernel
theorem dX0_grind_25 : decode cX0_grind 25 = .ok (.return_, 1) := by decide +kernel
theorem dX0_rub_0 : decode cX0_rub 0 = .ok (.iload_n 1, 1) := by decide +kernel
theorem dX0_rub_1 : decode cX0_rub 1 = .ok (.ifCond .lt 19, 3) := by decide +kernel
theorem dX0_rub_4 : decode cX0_rub 4 = .ok (.iload_n 1, 1) := by decide +kernel
theorem dX0_rub_5 : decode cX0_rub 5 = .ok (.getstatic 50, 3) := by decide +kernel
theorem dX0_rub_8 : decode cX0_rub 8 = .ok (.arraylength, 1) := by decide +kernel
theorem dX0_rub_9 : decode cX0_rub 9 = .ok (.if_icmp .ge 11, 3) := by decide +kernel
theorem dX0_rub_12 : decode cX0_rub 12 = .ok (.getstatic 50, 3) := by decide +kernel
theorem dX0_rub_15 : decode cX0_rub 15 = .ok (.iload_n 1, 1) := by decide +kernel
theorem dX0_rub_16 : decode cX0_rub 16 = .ok (.iaload, 1) := by decide +kernel
theorem dX0_rub_17 : decode cX0_rub 17 = .ok (.goto 4, 3) := by decide +kernel
theorem dX0_rub_20 : decode cX0_rub 20 = .ok (.iconst 0, 1) := by decide +kernel
theorem dX0_rub_21 : decode cX0_rub 21 = .ok (.istore_n 3, 1) := by decide +kernel
theorem dX0_rub_22 : decode cX0_rub 22 = .ok (.aload_n 0, 1) := by decide +kernel
theorem dX0_rub_23 : decode cX0_rub 23 = .ok (.aload_n 0, 1) := by decide +kernel
theorem dX0_rub_24 : decode cX0_rub 24 = .ok (.getfield 21, 3) := by decide +kernel
theorem dX0_rub_27 : decode cX0_rub 27 = .ok (.aload_n 0, 1) := by decide +kernel
theorem dX0_rub_28 : decode cX0_rub 28 = .ok (.iload_n 1, 1) := by decide +kernel
theorem dX0_rub_29 : decode cX0_rub 29 = .ok (.invokevirtual 54, 3) := by decide +kernel
theorem dX0_rub_32 : decode cX0_rub 32 = .ok (.iadd, 1) := by decide +kernel
theorem dX0_rub_33 : decode cX0_rub 33 = .ok (.iload_n 3, 1) := by decide +kernel
theorem dX0_rub_34 : decode cX0_rub 34 = .ok (.invokestatic 58, 3) := by decide +kernel
theorem dX0_rub_37 : decode cX0_rub 37 = .ok (.putfield 21, 3) := by decide +kernel
theorem dX0_rub_40 : decode cX0_rub 40 = .ok (.aload_n 0, 1) := by decide +kernel
theorem dX0_rub_41 : decode cX0_rub 41 = .ok (.aload_n 0, 1) := by decide +kernel
theorem dX0_rub_42 : decode cX0_rub 42 = .ok (.getfield 24, 3) := by decide +kernel
theorem dX0_rub_45 : decode cX0_rub 45 = .ok (.iconst 3, 1) := by decide +kernel
theorem dX0_rub_46 : decode cX0_rub 46 = .ok (.iload_n 1, 1) := by decide +kernel
theorem dX0_rub_47 : decode cX0_rub 47 = .ok (.isub, 1) := by decide +kernel
theorem dX0_rub_48 : decode cX0_rub 48 = .ok (.isub, 1) := by decide +kernel
theorem dX0_rub_49 : decode cX0_rub 49 = .ok (.iconst 0, 1) := by decide +kernel
theorem dX0_rub_50 : decode cX0_rub 50 = .ok (.invokestatic 64, 3) := by decide +kernel
theorem dX0_rub_53 : decode cX0_rub 53 = .ok (.putfield 24, 3) := by decide +kernel
theorem dX0_rub_56 : decode cX0_rub 56 = .ok (.aload_n 0, 1) := by decide +kernel
theorem dX0_rub_57 : decode cX0_rub 57 = .ok (.iconst 0, 1) := by decide +kernel
theorem dX0_rub_58 : decode cX0_rub 58 = .ok (.bipush 99, 2) := by decide +kernel
theorem dX0_rub_60 : decode cX0_rub 60 = .ok (.aload_n 0, 1) := by decide +kernel
theorem dX0_rub_61 : decode cX0_rub 61 = .ok (.getfield 27, 3) := by decide +kernel
theorem dX0_rub_64 : decode cX0_rub 64 = .ok (.bipush 9, 2) := by decide +kernel
theorem dX0_rub_66 : decode cX0_rub 66 = .ok (.iadd, 1) := by decide +kernel
theorem dX0_rub_67 : decode cX0_rub 67 = .ok (.iconst 2, 1) := by decide +kernel
theorem dX0_rub_68 : decode cX0_rub 68 = .ok (.iload_n 1, 1) := by decide +kernel
theorem dX0_rub_69 : decode cX0_rub 69 = .ok (.imul, 1) := by decide +kernel
theorem dX0_rub_70 : decode cX0_rub 70 = .ok (.isub, 1) := by decide +kernel
theorem dX0_rub_71 : decode cX0_rub 71 = .ok (.iload_n 2, 1) := by decide +kernel
theorem dX0_rub_72 : decode cX0_rub 72 = .ok (.isub, 1) := by decide +kernel
theorem dX0_rub_73 : decode cX0_rub 73 = .ok (.invokestatic 58, 3) := by decide +kernel
theorem dX0_rub_76 : decode cX0_rub 76 = .ok (.invokestatic 64, 3) := by decide +kernel
theorem dX0_rub_79 : decode cX0_rub 79 = .ok (.putfield 27, 3) := by decide +kernel
theorem dX0_rub_82 : decode cX0_rub 82 = .ok (.return_, 1) := by decide +kernel
theorem dX0_settle_0 : decode cX0_settle 0 = .ok (.aload_n 0, 1) := by decide +kernel
theorem dX0_settle_1 : decode cX0_settle 1 = .ok (.getfield 24, 3) := by decide +kernel
theorem dX0_settle_4 : decode cX0_settle 4 = .ok (.ifCond .ne 12, 3) := by decide +kernel
theorem dX0_settle_7 : decode cX0_settle 7 = .ok (.aload_n 0, 1) := by decide +kernel
theorem dX0_settle_8 : decode cX0_settle 8 = .ok (.bipush 6, 2) := by decide +kernel
theorem dX0_settle_10 : decode cX0_settle 10 = .ok (.putfield 9, 3) := by decide +kernel
theorem dX0_settle_13 : decode cX0_settle 13 = .ok (.goto 22, 3) := by decide +kernel
theorem dX0_settle_16 : decode cX0_settle 16 = .ok (.aload_n 0, 1) := by decide +kernel
theorem dX0_settle_17 : decode cX0_settle 17 = .ok (.getfield 27, 3) := by decide +kernel
theorem dX0_settle_20 : decode cX0_settle 20 = .ok (.bipush 60, 2) := by decide +kernel
theorem dX0_settle_22 : decode cX0_settle 22 = .ok (.if_icmp .lt 13, 3) := by decide +kernel
theorem dX0_settle_25 : decode cX0_settle 25 = .ok (.aload_n 0, 1) := by decide +kernel
theorem dX0_settle_26 : decode cX0_settle 26 = .ok (.iconst 4, 1) := by decide +kernel
theorem dX0_settle_27 : decode cX0_settle 27 = .ok (.putfield 9, 3) := by decide +kernel
theorem dX0_settle_30 : decode cX0_settle 30 = .ok (.aload_n 0, 1) := by decide +kernel
theorem dX0_settle_31 : decode cX0_settle 31 = .ok (.iconst 0, 1) := by decide +kernel
theorem dX0_settle_32 : decode cX0_settle 32 = .ok (.putfield 27, 3) := by decide +kernel
theorem dX0_settle_35 : decode cX0_settle 35 = .ok (.return_, 1) := by decide +kernel
theorem dX1_init_0 : decode cX1_init 0 = .ok (.aload_n 0, 1) := by decide +kernel
theorem dX1_init_1 : decode cX1_init 1 = .ok (.invokespecial 3, 3) := by decide +kernel
theorem dX1_init_4 : decode cX1_init 4 = .ok (.aload_n 0, 1) := by decide +kernel
theorem dX1_init_5 : decode cX1_init 5 = .ok (.new 9, 3) := by decide +kernel
theorem dX1_init_8 : decode cX1_init 8 = .ok (.dup, 1) := by decide +kernel
theorem dX1_init_9 : decode cX1_init 9 = .ok (.invokespecial 11, 3) := by decide +kernel
theorem dX1_init_12 : decode cX1_init 12 = .ok (.putfield 12, 3) := by decide +kernel
theorem dX1_init_15 : decode cX1_init 15 = .ok (.aload_n 0, 1) := by decide +kernel
theorem dX1_init_16 : decode cX1_init 16 = .ok (.ldc 18, 2) := by decide +kernel
theorem dX1_init_18 : decode cX1_init 18 = .ok (.putfield 20, 3) := by decide +kernel
theorem dX1_init_21 : decode cX1_init 21 = .ok (.aload_n 0, 1) := by decide +kernel
theorem dX1_init_22 : decode cX1_init 22 = .ok (.bipush 50, 2) := by decide +kernel
theorem dX1_init_24 : decode cX1_init 24 = .ok (.newarray .int, 2) := by decide +kernel
theorem dX1_init_26 : decode cX1_init 26 = .ok (.putfield 24, 3) := by decide +kernel
theorem dX1_init_29 : decode cX1_init 29 = .ok (.aload_n 0, 1) := by decide +kernel
theorem dX1_init_30 : decode cX1_init 30 = .ok (.iconst 0, 1) := by decide +kernel
theorem dX1_init_31 : decode cX1_init 31 = .ok (.putfield 28, 3) := by decide +kernel
theorem dX1_init_34 : decode cX1_init 34 = .ok (.aload_n 0, 1) := by decide +kernel
theorem dX1_init_35 : decode cX1_init 35 = .ok (.iconst 0, 1) := by decide +kernel
theorem dX1_init_36 : decode cX1_init 36 = .ok (.putfield 32, 3) := by decide +kernel
theorem dX1_init_39 : decode cX1_init 39 = .ok (.aload_n 0, 1) := by decide +kernel
theorem dX1_init_40 : decode cX1_init 40 = .ok (.iconst 1, 1) := by decide +kernel
theorem dX1_init_41 : decode cX1_init 41 = .ok (.putfield 35, 3) := by decide +kernel
theorem dX1_init_44 : decode cX1_init 44 = .ok (.aload_n 0, 1) := by decide +kernel
theorem dX1_init_45 : decode cX1_init 45 = .ok (.iconst 0, 1) := by decide +kernel
theorem dX1_init_46 : decode cX1_init 46 = .ok (.putfield 39, 3) := by decide +kernel
theorem dX1_init_49 : decode cX1_init 49 = .ok (.return_, 1) := by decide +kernel
theorem dX1_read_0 : decode cX1_read 0 = .ok (.aload_n 0, 1) := by decide +kernel
theorem dX1_read_1 : decode cX1_read 1 = .ok (.getfield 12, 3) := by decide +kernel
theorem dX1_read_4 : decode cX1_read 4 = .ok (.invokevirtual 42, 3) := by decide +kernel
theorem dX1_read_7 : decode cX1_read 7 = .ok (.aload_n 0, 1) := by decide +kernel
theorem dX1_read_8 : decode cX1_read 8 = .ok (.aload_n 3, 1) := by decide +kernel
theorem dX1_read_9 : decode cX1_read 9 = .ok (.putfield 20, 3) := by decide +kernel
theorem dX1_read_12 : decode cX1_read 12 = .ok (.aload_n 0, 1) := by decide +kernel
theorem dX1_read_13 : decode cX1_read 13 = .ok (.iconst 0, 1) := by decide +kernel
theorem dX1_read_14 : decode cX1_read 14 = .ok (.putfield 28, 3) := by decide +kernel
theorem dX1_read_17 : decode cX1_read 17 = .ok (.aload_n 0, 1) := by decide +kernel
theorem dX1_read_18 : decode cX1_read 18 = .ok (.iconst 0, 1) := by decide +kernel
theorem dX1_read_19 : decode cX1_read 19 = .ok (.putfield 32, 3) := by decide +kernel
theorem dX1_read_22 : decode cX1_read 22 = .ok (.aload_n 0, 1) := by decide +kernel
theorem dX1_read_23 : decode cX1_read 23 = .ok (.iconst 1, 1) := by decide +kernel
theorem dX1_read_24 : decode cX1_read 24 = .ok (.putfield 35, 3) := by decide +kernel
theorem dX1_read_27 : decode cX1_read 27 = .ok (.aload_n 0, 1) := by decide +kernel
theorem dX1_read_28 : decode cX1_read 28 = .ok (.iconst 0, 1) := by decide +kernel
theorem dX1_read_29 : decode cX1_read 29 = .ok (.putfield 39, 3) := by decide +kernel
theorem dX1_read_32 : decode cX1_read 32 = .ok (.iconst 0, 1) := by decide +kernel
theorem dX1_read_33 : decode cX1_read 33 = .ok (.istore 4, 2) := by decide +kernel
theorem dX1_read_35 : decode cX1_read 35 = .ok (.iload 4, 2) := by decide +kernel
theorem dX1_read_37 : decode cX1_read 37 = .ok (.iload_n 2, 1) := by decide +kernel
theorem dX1_read_38 : decode cX1_read 38 = .ok (.if_icmp .ge 52, 3) := by decide +kernel
theorem dX1_read_41 : decode cX1_read 41 = .ok (.iload 4, 2) := by decide +kernel
theorem dX1_read_43 : decode cX1_read 43 = .ok (.aload_n 1, 1) := by decide +kernel
theorem dX1_read_44 : decode cX1_read 44 = .ok (.arraylength, 1) := by decide +kernel
theorem dX1_read_45 : decode cX1_read 45 = .ok (.if_icmp .ge 45, 3) := by decide +kernel
theorem dX1_read_48 : decode cX1_read 48 = .ok (.aload_n 0, 1) := by decide +kernel
theorem dX1_read_49 : decode cX1_read 49 = .ok (.getfield 35, 3) := by decide +kernel
theorem dX1_read_52 : decode cX1_read 52 = .ok (.ifCond .eq 14, 3) := by decide +kernel
theorem dX1_read_55 : decode cX1_read 55 = .ok (.aload_n 0, 1) := by decide +kernel
theorem dX1_read_56 : decode cX1_read 56 = .ok (.aload_n 1, 1) := by decide +kernel
theorem dX1_read_57 : decode cX1_read 57 = .ok (.iload 4, 2) := by decide +kernel
theorem dX1_read_59 : decode cX1_read 59 = .ok (.iaload, 1) := by decide +kernel
theorem dX1_read_60 : decode cX1_read 60 = .ok (.invokevirtual 45, 3) := by decide +kernel
theorem dX1_read_63 : decode cX1_read 63 = .ok (.goto 11, 3) := by decide +kernel
theorem dX1_read_66 : decode cX1_read 66 = .ok (.aload_n 0, 1) := by decide +kernel
theorem dX1_read_67 : decode cX1_read 67 = .ok (.aload_n 1, 1) := by decide +kernel
theorem dX1_read_68 : decode cX1_read 68 = .ok (.iload 4, 2) := by decide +kernel
theorem dX1_read_70 : decode cX1_read 70 = .ok (.iaload, 1) := by decide +kernel
theorem dX1_read_71 : decode cX1_read 71 = .ok (.invokevirtual 49, 3) := by decide +kernel
theorem dX1_read_74 : decode cX1_read 74 = .ok (.istore 5, 2) := by decide +kernel
theorem dX1_read_76 : decode cX1_read 76 = .ok (.iload 5, 2) := by decide +kernel
theorem dX1_read_78 : decode cX1_read 78 = .ok (.ifCond .ne 6, 3) := by decide +kernel
theorem dX1_read_81 : decode cX1_read 81 = .ok (.iload 4, 2) := by decide +kernel
theorem dX1_read_83 : decode cX1_read 83 = .ok (.ireturn, 1) := by decide +kernel
theorem dX1_read_84 : decode cX1_read 84 = .ok (.iinc 4 1, 3) := by decide +kernel
theorem dX1_read_87 : decode cX1_read 87 = .ok (.goto (-52), 3) := by decide +kernel
theorem dX1_read_90 : decode cX1_read 90 = .ok (.aload_n 0, 1) := by decide +kernel
theorem dX1_read_91 : decode cX1_read 91 = .ok (.iconst 1, 1) := by decide +kernel
theorem dX1_read_92 : decode cX1_read 92 = .ok (.invokevirtual 52, 3) := by decide +kernel
theorem dX1_read_95 : decode cX1_read 95 = .ok (.aload_n 0, 1) := by decide +kernel
theorem dX1_read_96 : decode cX1_read 96 = .ok (.getfield 35, 3) := by decide +kernel
theorem dX1_read_99 : decode cX1_read 99 = .ok (.ifCond .ne 10, 3) := by decide +kernel
theorem dX1_read_102 : decode cX1_read 102 = .ok (.aload_n 0, 1) := by decide +kernel
theorem dX1_read_103 : decode cX1_read 103 = .ok (.getfield 28, 3) := by decide +kernel
theorem dX1_read_106 : decode cX1_read 106 = .ok (.ifCond .le 7, 3) := by decide +kernel
theorem dX1_read_109 : decode cX1_read 109 = .ok (.iload_n 2, 1) := by decide +kernel
theorem dX1_read_110 : decode cX1_read 110 = .ok (.goto 4, 3) := by decide +kernel
theorem dX1_read_113 : decode cX1_read 113 = .ok (.iconst (-1), 1) := by decide +kernel
theorem dX1_read_114 : decode cX1_read 114 = .ok (.ireturn, 1) := by decide +kernel
theorem dX1_takeOperand_0 : decode cX1_takeOperand 0 = .ok (.iload_n 1, 1) := by decide +kernel
theorem dX1_takeOperand_1 : decode cX1_takeOperand 1 = .ok (.bipush 33, 2) := by decide +kernel
theorem dX1_takeOperand_3 : decode cX1_takeOperand 3 = .ok (.if_icmp .eq 9, 3) := by decide +kernel
theorem dX1_takeOperand_6 : decode cX1_takeOperand 6 = .ok (.iload_n 1, 1) := by decide +kernel
theorem dX1_takeOperand_7 : decode cX1_takeOperand 7 = .ok (.bipush 40, 2) := by decide +kernel
theorem dX1_takeOperand_9 : decode cX1_takeOperand 9 = .ok (.if_icmp .ne 30, 3) := by decide +kernel
theorem dX1_takeOperand_12 : decode cX1_takeOperand 12 = .ok (.aload_n 0, 1) := by decide +kernel
theorem dX1_takeOperand_13 : decode cX1_takeOperand 13 = .ok (.getfield 32, 3) := by decide +kernel
theorem dX1_takeOperand_16 : decode cX1_takeOperand 16 = .ok (.iconst 5, 1) := by decide +kernel
theorem dX1_takeOperand_17 : decode cX1_takeOperand 17 = .ok (.if_icmp .lt 5, 3) := by decide +kernel
theorem dX1_takeOperand_20 : decode cX1_takeOperand 20 = .ok (.iconst 0, 1) := by decide +kernel
theorem dX1_takeOperand_21 : decode cX1_takeOperand 21 = .ok (.ireturn, 1) := by decide +kernel
theorem dX1_takeOperand_22 : decode cX1_takeOperand 22 = .ok (.aload_n 0, 1) := by decide +kernel
theorem dX1_takeOperand_23 : decode cX1_takeOperand 23 = .ok (.dup, 1) := by decide +kernel
theorem dX1_takeOperand_24 : decode cX1_takeOperand 24 = .ok (.getfield 32, 3) := by decide +kernel
theorem dX1_takeOperand_27 : decode cX1_takeOperand 27 = .ok (.iconst 1, 1) := by decide +kernel
theorem dX1_takeOperand_28 : decode cX1_takeOperand 28 = .ok (.iadd, 1) := by decide +kernel
theorem dX1_takeOperand_29 : decode cX1_takeOperand 29 = .ok (.putfield 32, 3) := by decide +kernel
theorem dX1_takeOperand_32 : decode cX1_takeOperand 32 = .ok (.aload_n 0, 1) := by decide +kernel
theorem dX1_takeOperand_33 : decode cX1_takeOperand 33 = .ok (.iload_n 1, 1) := by decide +kernel
theorem dX1_takeOperand_34 : decode cX1_takeOperand 34 = .ok (.invokevirtual 56, 3) := by decide +kernel
theorem dX1_takeOperand_37 : decode cX1_takeOperand 37 = .ok (.iconst 1, 1) := by decide +kernel
theorem dX1_takeOperand_38 : decode cX1_takeOperand 38 = .ok (.ireturn, 1) := by decide +kernel
theorem dX1_takeOperand_39 : decode cX1_takeOperand 39 = .ok (.aload_n 0, 1) := by decide +kernel
theorem dX1_takeOperand_40 : decode cX1_takeOperand 40 = .ok (.getfield 20, 3) := by decide +kernel
theorem dX1_takeOperand_43 : decode cX1_takeOperand 43 = .ok (.iload_n 1, 1) := by decide +kernel
theorem dX1_takeOperand_44 : decode cX1_takeOperand 44 = .ok (.i2c, 1) := by decide +kernel
theorem dX1_takeOperand_45 : decode cX1_takeOperand 45 = .ok (.invokevirtual 59, 3) := by decide +kernel
theorem dX1_takeOperand_48 : decode cX1_takeOperand 48 = .ok (.istore_n 2, 1) := by decide +kernel
theorem dX1_takeOperand_49 : decode cX1_takeOperand 49 = .ok (.iload_n 1, 1) := by decide +kernel
theorem dX1_takeOperand_50 : decode cX1_takeOperand 50 = .ok (.invokestatic 65, 3) := by decide +kernel
theorem dX1_takeOperand_53 : decode cX1_takeOperand 53 = .ok (.ifCond .ne 9, 3) := by decide +kernel
theorem dX1_takeOperand_56 : decode cX1_takeOperand 56 = .ok (.iload_n 2, 1) := by decide +kernel
theorem dX1_takeOperand_57 : decode cX1_takeOperand 57 = .ok (.ifCond .ge 5, 3) := by decide +kernel
theorem dX1_takeOperand_60 : decode cX1_takeOperand 60 = .ok (.iconst 0, 1) := by decide +kernel
theorem dX1_takeOperand_61 : decode cX1_takeOperand 61 = .ok (.ireturn, 1) := by decide +kernel
theorem dX1_takeOperand_62 : decode cX1_takeOperand 62 = .ok (.aload_n 0, 1) := by decide +kernel
theorem dX1_takeOperand_63 : decode cX1_takeOperand 63 = .ok (.getfield 12, 3) := by decide +kernel
theorem dX1_takeOperand_66 : decode cX1_takeOperand 66 = .ok (.iload_n 1, 1) := by decide +kernel
theorem dX1_takeOperand_67 : decode cX1_takeOperand 67 = .ok (.invokestatic 65, 3) := by decide +kernel
theorem dX1_takeOperand_70 : decode cX1_takeOperand 70 = .ok (.ifCond .eq 10, 3) := by decide +kernel
theorem dX1_takeOperand_73 : decode cX1_takeOperand 73 = .ok (.iload_n 1, 1) := by decide +kernel
theorem dX1_takeOperand_74 : decode cX1_takeOperand 74 = .ok (.bipush 48, 2) := by decide +kernel
theorem dX1_takeOperand_76 : decode cX1_takeOperand 76 = .ok (.isub, 1) := by decide +kernel
theorem dX1_takeOperand_77 : decode cX1_takeOperand 77 = .ok (.goto 8, 3) := by decide +kernel
theorem dX1_takeOperand_80 : decode cX1_takeOperand 80 = .ok (.sipush 10000, 3) := by decide +kernel
theorem dX1_takeOperand_83 : decode cX1_takeOperand 83 = .ok (.iload_n 2, 1) := by decide +kernel
theorem dX1_takeOperand_84 : decode cX1_takeOperand 84 = .ok (.iadd, 1) := by decide +kernel
theorem dX1_takeOperand_85 : decode cX1_takeOperand 85 = .ok (.invokevirtual 68, 3) := by decide +kernel
theorem dX1_takeOperand_88 : decode cX1_takeOperand 88 = .ok (.aload_n 0, 1) := by decide +kernel
theorem dX1_takeOperand_89 : decode cX1_takeOperand 89 = .ok (.iload_n 1, 1) := by decide +kernel
theorem dX1_takeOperand_90 : decode cX1_takeOperand 90 = .ok (.invokestatic 65, 3) := by decide +kernel
theorem dX1_takeOperand_93 : decode cX1_takeOperand 93 = .ok (.ifCond .eq 7, 3) := by decide +kernel
theorem dX1_takeOperand_96 : decode cX1_takeOperand 96 = .ok (.iconst 3, 1) := by decide +kernel
theorem dX1_takeOperand_97 : decode cX1_takeOperand 97 = .ok (.goto 4, 3) := by decide +kernel
theorem dX1_takeOperand_100 : decode cX1_takeOperand 100 = .ok (.iconst 0, 1) := by decide +kernel
theorem dX1_takeOperand_101 : decode cX1_takeOperand 101 = .ok (.putfield 39, 3) := by decide +kernel
theorem dX1_takeOperand_104 : decode cX1_takeOperand 104 = .ok (.aload_n 0, 1) := by decide +kernel
theorem dX1_takeOperand_105 : decode cX1_takeOperand 105 = .ok (.iconst 0, 1) := by decide +kernel
theorem dX1_takeOperand_106 : decode cX1_takeOperand 106 = .ok (.putfield 35, 3) := by decide +kernel
theorem dX1_takeOperand_109 : decode cX1_takeOperand 109 = .ok (.iconst 1, 1) := by decide +kernel
theorem dX1_takeOperand_110 : decode cX1_takeOperand 110 = .ok (.ireturn, 1) := by decide +kernel
theorem dX1_takeBehindOperand_0 : decode cX1_takeBehindOperand 0 = .ok (.iload_n 1, 1) := by decide +kernel
theorem dX1_takeBehindOperand_1 : decode cX1_takeBehindOperand 1 = .ok (.invokestatic 65, 3) := by decide +kernel
theorem dX1_takeBehindOperand_4 : decode cX1_takeBehindOperand 4 = .ok (.ifCond .eq 12, 3) := by decide +kernel
theorem dX1_takeBehindOperand_7 : decode cX1_takeBehindOperand 7 = .ok (.aload_n 0, 1) := by decide +kernel
theorem dX1_takeBehindOperand_8 : decode cX1_takeBehindOperand 8 = .ok (.iload_n 1, 1) := by decide +kernel
theorem dX1_takeBehindOperand_9 : decode cX1_takeBehindOperand 9 = .ok (.bipush 48, 2) := by decide +kernel
theorem dX1_takeBehindOperand_11 : decode cX1_takeBehindOperand 11 = .ok (.isub, 1) := by decide +kernel
theorem dX1_takeBehindOperand_12 : decode cX1_takeBehindOperand 12 = .ok (.invokevirtual 71, 3) := by decide +kernel
theorem dX1_takeBehindOperand_15 : decode cX1_takeBehindOperand 15 = .ok (.ireturn, 1) := by decide +kernel
theorem dX1_takeBehindOperand_16 : decode cX1_takeBehindOperand 16 = .ok (.aload_n 0, 1) := by decide +kernel
theorem dX1_takeBehindOperand_17 : decode cX1_takeBehindOperand 17 = .ok (.iconst 0, 1) := by decide +kernel
theorem dX1_takeBehindOperand_18 : decode cX1_takeBehindOperand 18 = .ok (.putfield 39, 3) := by decide +kernel
theorem dX1_takeBehindOperand_21 : decode cX1_takeBehindOperand 21 = .ok (.iload_n 1, 1) := by decide +kernel
theorem dX1_takeBehindOperand_22 : decode cX1_takeBehindOperand 22 = .ok (.bipush 41, 2) := by decide +kernel
theorem dX1_takeBehindOperand_24 : decode cX1_takeBehindOperand 24 = .ok (.if_icmp .ne 8, 3) := by decide +kernel
theorem dX1_takeBehindOperand_27 : decode cX1_takeBehindOperand 27 = .ok (.aload_n 0, 1) := by decide +kernel
theorem dX1_takeBehindOperand_28 : decode cX1_takeBehindOperand 28 = .ok (.invokevirtual 74, 3) := by decide +kernel
theorem dX1_takeBehindOperand_31 : decode cX1_takeBehindOperand 31 = .ok (.ireturn, 1) := by decide +kernel
theorem dX1_takeBehindOperand_32 : decode cX1_takeBehindOperand 32 = .ok (.iload_n 1, 1) := by decide +kernel
theorem dX1_takeBehindOperand_33 : decode cX1_takeBehindOperand 33 = .ok (.invokestatic 78, 3) := by decide +kernel
theorem dX1_takeBehindOperand_36 : decode cX1_takeBehindOperand 36 = .ok (.istore_n 2, 1) := by decide +kernel
theorem dX1_takeBehindOperand_37 : decode cX1_takeBehindOperand 37 = .ok (.iload_n 2, 1) := by decide +kernel
theorem dX1_takeBehindOperand_38 : decode cX1_takeBehindOperand 38 = .ok (.iconst 1, 1) := by decide +kernel
theorem dX1_takeBehindOperand_39 : decode cX1_takeBehindOperand 39 = .ok (.iconst 5, 1) := by decide +kernel
theorem dX1_takeBehindOperand_40 : decode cX1_takeBehindOperand 40 = .ok (.invokestatic 81, 3) := by decide +kernel
theorem dX1_takeBehindOperand_43 : decode cX1_takeBehindOperand 43 = .ok (.ifCond .ne 5, 3) := by decide +kernel
theorem dX1_takeBehindOperand_46 : decode cX1_takeBehindOperand 46 = .ok (.iconst 0, 1) := by decide +kernel
theorem dX1_takeBehindOperand_47 : decode cX1_takeBehindOperand 47 = .ok (.ireturn, 1) := by decide +kernel
theorem dX1_takeBehindOperand_48 : decode cX1_takeBehindOperand 48 = .ok (.aload_n 0, 1) := by decide +kernel
theorem dX1_takeBehindOperand_49 : decode cX1_takeBehindOperand 49 = .ok (.iload_n 2, 1) := by decide +kernel
theorem dX1_takeBehindOperand_50 : decode cX1_takeBehindOperand 50 = .ok (.iconst 3, 1) := by decide +kernel
theorem dX1_takeBehindOperand_51 : decode cX1_takeBehindOperand 51 = .ok (.if_icmp .ne 9, 3) := by decide +kernel
theorem dX1_takeBehindOperand_54 : decode cX1_takeBehindOperand 54 = .ok (.iload_n 2, 1) := by decide +kernel
theorem dX1_takeBehindOperand_55 : decode cX1_takeBehindOperand 55 = .ok (.iconst 1, 1) := by decide +kernel
theorem dX1_takeBehindOperand_56 : decode cX1_takeBehindOperand 56 = .ok (.iadd, 1) := by decide +kernel
theorem dX1_takeBehindOperand_57 : decode cX1_takeBehindOperand 57 = .ok (.goto 4, 3) := by decide +kernel
theorem dX1_takeBehindOperand_60 : decode cX1_takeBehindOperand 60 = .ok (.iload_n 2, 1) := by decide +kernel
theorem dX1_takeBehindOperand_61 : decode cX1_takeBehindOperand 61 = .ok (.invokevirtual 52, 3) := by decide +kernel
theorem dX1_takeBehindOperand_64 : decode cX1_takeBehindOperand 64 = .ok (.iload_n 2, 1) := by decide +kernel
theorem dX1_takeBehindOperand_65 : decode cX1_takeBehindOperand 65 = .ok (.iconst 3, 1) := by decide +kernel
theorem dX1_takeBehindOperand_66 : decode cX1_takeBehindOperand 66 = .ok (.if_icmp .ne 13, 3) := by decide +kernel
theorem dX1_takeBehindOperand_69 : decode cX1_takeBehindOperand 69 = .ok (.aload_n 0, 1) := by decide +kernel
theorem dX1_takeBehindOperand_70 : decode cX1_takeBehindOperand 70 = .ok (.invokevirtual 85, 3) := by decide +kernel
theorem dX1_takeBehindOperand_73 : decode cX1_takeBehindOperand 73 = .ok (.iconst 3, 1) := by decide +kernel
theorem dX1_takeBehindOperand_74 : decode cX1_takeBehindOperand 74 = .ok (.if_icmp .ne 5, 3) := by decide +kernel
theorem dX1_takeBehindOperand_77 : decode cX1_takeBehindOperand 77 = .ok (.iconst 0, 1) := by decide +kernel
theorem dX1_takeBehindOperand_78 : decode cX1_takeBehindOperand 78 = .ok (.ireturn, 1) := by decide +kernel
theorem dX1_takeBehindOperand_79 : decode cX1_takeBehindOperand 79 = .ok (.aload_n 0, 1) := by decide +kernel
theorem dX1_takeBehindOperand_80 : decode cX1_takeBehindOperand 80 = .ok (.iload_n 1, 1) := by decide +kernel
theorem dX1_takeBehindOperand_81 : decode cX1_takeBehindOperand 81 = .ok (.invokevirtual 56, 3) := by decide +kernel
theorem dX1_takeBehindOperand_84 : decode cX1_takeBehindOperand 84 = .ok (.aload_n 0, 1) := by decide +kernel
theorem dX1_takeBehindOperand_85 : decode cX1_takeBehindOperand 85 = .ok (.iconst 1, 1) := by decide +kernel
theorem dX1_takeBehindOperand_86 : decode cX1_takeBehindOperand 86 = .ok (.putfield 35, 3) := by decide +kernel
theorem dX1_takeBehindOperand_89 : decode cX1_takeBehindOperand 89 = .ok (.iconst 1, 1) := by decide +kernel
theorem dX1_takeBehindOperand_90 : decode cX1_takeBehindOperand 90 = .ok (.ireturn, 1) := by decide +kernel
theorem dX1_takeDigit_0 : decode cX1_takeDigit 0 = .ok (.aload_n 0, 1) := by decide +kernel
theorem dX1_takeDigit_1 : decode cX1_takeDigit 1 = .ok (.getfield 39, 3) := by decide +kernel
theorem dX1_takeDigit_4 : decode cX1_takeDigit 4 = .ok (.ifCond .ne 5, 3) := by decide +kernel
theorem dX1_takeDigit_7 : decode cX1_takeDigit 7 = .ok (.iconst 0, 1) := by decide +kernel
theorem dX1_takeDigit_8 : decode cX1_takeDigit 8 = .ok (.ireturn, 1) := by decide +kernel
theorem dX1_takeDigit_9 : decode cX1_takeDigit 9 = .ok (.aload_n 0, 1) := by decide +kernel
theorem dX1_takeDigit_10 : decode cX1_takeDigit 10 = .ok (.getfield 12, 3) := by decide +kernel
theorem dX1_takeDigit_13 : decode cX1_takeDigit 13 = .ok (.iload_n 1, 1) := by decide +kernel
theorem dX1_takeDigit_14 : decode cX1_takeDigit 14 = .ok (.invokevirtual 89, 3) := by decide +kernel
theorem dX1_takeDigit_17 : decode cX1_takeDigit 17 = .ok (.aload_n 0, 1) := by decide +kernel
theorem dX1_takeDigit_18 : decode cX1_takeDigit 18 = .ok (.dup, 1) := by decide +kernel
theorem dX1_takeDigit_19 : decode cX1_takeDigit 19 = .ok (.getfield 39, 3) := by decide +kernel
theorem dX1_takeDigit_22 : decode cX1_takeDigit 22 = .ok (.iconst 1, 1) := by decide +kernel
theorem dX1_takeDigit_23 : decode cX1_takeDigit 23 = .ok (.isub, 1) := by decide +kernel
theorem dX1_takeDigit_24 : decode cX1_takeDigit 24 = .ok (.putfield 39, 3) := by decide +kernel
theorem dX1_takeDigit_27 : decode cX1_takeDigit 27 = .ok (.iconst 1, 1) := by decide +kernel
theorem dX1_takeDigit_28 : decode cX1_takeDigit 28 = .ok (.ireturn, 1) := by decide +kernel
theorem dX1_takeClosing_0 : decode cX1_takeClosing 0 = .ok (.aload_n 0, 1) := by decide +kernel
theorem dX1_takeClosing_1 : decode cX1_takeClosing 1 = .ok (.iconst 1, 1) := by decide +kernel
theorem dX1_takeClosing_2 : decode cX1_takeClosing 2 = .ok (.invokevirtual 52, 3) := by decide +kernel
theorem dX1_takeClosing_5 : decode cX1_takeClosing 5 = .ok (.aload_n 0, 1) := by decide +kernel
theorem dX1_takeClosing_6 : decode cX1_takeClosing 6 = .ok (.getfield 28, 3) := by decide +kernel
theorem dX1_takeClosing_9 : decode cX1_takeClosing 9 = .ok (.ifCond .ne 5, 3) := by decide +kernel
theorem dX1_takeClosing_12 : decode cX1_takeClosing 12 = .ok (.iconst 0, 1) := by decide +kernel
theorem dX1_takeClosing_13 : decode cX1_takeClosing 13 = .ok (.ireturn, 1) := by decide +kernel
theorem dX1_takeClosing_14 : decode cX1_takeClosing 14 = .ok (.aload_n 0, 1) := by decide +kernel
theorem dX1_takeClosing_15 : decode cX1_takeClosing 15 = .ok (.dup, 1) := by decide +kernel
theorem dX1_takeClosing_16 : decode cX1_takeClosing 16 = .ok (.getfield 28, 3) := by decide +kernel
theorem dX1_takeClosing_19 : decode cX1_takeClosing 19 = .ok (.iconst 1, 1) := by decide +kernel
theorem dX1_takeClosing_20 : decode cX1_takeClosing 20 = .ok (.isub, 1) := by decide +kernel
theorem dX1_takeClosing_21 : decode cX1_takeClosing 21 = .ok (.putfield 28, 3) := by decide +kernel
theorem dX1_takeClosing_24 : decode cX1_takeClosing 24 = .ok (.aload_n 0, 1) := by decide +kernel
theorem dX1_takeClosing_25 : decode cX1_takeClosing 25 = .ok (.dup, 1) := by decide +kernel
theorem dX1_takeClosing_26 : decode cX1_takeClosing 26 = .ok (.getfield 32, 3) := by decide +kernel
theorem dX1_takeClosing_29 : decode cX1_takeClosing 29 = .ok (.iconst 1, 1) := by decide +kernel
theorem dX1_takeClosing_30 : decode cX1_takeClosing 30 = .ok (.isub, 1) := by decide +kernel
theorem dX1_takeClosing_31 : decode cX1_takeClosing 31 = .ok (.putfield 32, 3) := by decide +kernel
theorem dX1_takeClosing_34 : decode cX1_takeClosing 34 = .ok (.iconst 1, 1) := by decide +kernel
theorem dX1_takeClosing_35 : decode cX1_takeClosing 35 = .ok (.ireturn, 1) := by decide +kernel
theorem dX1_settle_0 : decode cX1_settle 0 = .ok (.aload_n 0, 1) := by decide +kernel
theorem dX1_settle_1 : decode cX1_settle 1 = .ok (.getfield 28, 3) := by decide +kernel
theorem dX1_settle_4 : decode cX1_settle 4 = .ok (.ifCond .le 59, 3) := by decide +kernel
theorem dX1_settle_7 : decode cX1_settle 7 = .ok (.aload_n 0, 1) := by decide +kernel
theorem dX1_settle_8 : decode cX1_settle 8 = .ok (.invokevirtual 85, 3) := by decide +kernel
theorem dX1_settle_11 : decode cX1_settle 11 = .ok (.iload_n 1, 1) := by decide +kernel
theorem dX1_settle_12 : decode cX1_settle 12 = .ok (.if_icmp .lt 51, 3) := by decide +kernel
theorem dX1_settle_15 : decode cX1_settle 15 = .ok (.aload_n 0, 1) := by decide +kernel
theorem dX1_settle_16 : decode cX1_settle 16 = .ok (.dup, 1) := by decide +kernel
theorem dX1_settle_17 : decode cX1_settle 17 = .ok (.getfield 28, 3) := by decide +kernel
theorem dX1_settle_20 : decode cX1_settle 20 = .ok (.iconst 1, 1) := by decide +kernel
theorem dX1_settle_21 : decode cX1_settle 21 = .ok (.isub, 1) := by decide +kernel
theorem dX1_settle_22 : decode cX1_settle 22 = .ok (.putfield 28, 3) := by decide +kernel
theorem dX1_settle_25 : decode cX1_settle 25 = .ok (.aload_n 0, 1) := by decide +kernel
theorem dX1_settle_26 : decode cX1_settle 26 = .ok (.getfield 24, 3) := by decide +kernel
theorem dX1_settle_29 : decode cX1_settle 29 = .ok (.aload_n 0, 1) := by decide +kernel
theorem dX1_settle_30 : decode cX1_settle 30 = .ok (.getfield 28, 3) := by decide +kernel
theorem dX1_settle_33 : decode cX1_settle 33 = .ok (.iaload, 1) := by decide +kernel
theorem dX1_settle_34 : decode cX1_settle 34 = .ok (.istore_n 2, 1) := by decide +kernel
theorem dX1_settle_35 : decode cX1_settle 35 = .ok (.iload_n 2, 1) := by decide +kernel
theorem dX1_settle_36 : decode cX1_settle 36 = .ok (.bipush 33, 2) := by decide +kernel
theorem dX1_settle_38 : decode cX1_settle 38 = .ok (.if_icmp .ne 13, 3) := by decide +kernel
theorem dX1_settle_41 : decode cX1_settle 41 = .ok (.aload_n 0, 1) := by decide +kernel
theorem dX1_settle_42 : decode cX1_settle 42 = .ok (.dup, 1) := by decide +kernel
theorem dX1_settle_43 : decode cX1_settle 43 = .ok (.getfield 32, 3) := by decide +kernel
theorem dX1_settle_46 : decode cX1_settle 46 = .ok (.iconst 1, 1) := by decide +kernel
theorem dX1_settle_47 : decode cX1_settle 47 = .ok (.isub, 1) := by decide +kernel
theorem dX1_settle_48 : decode cX1_settle 48 = .ok (.putfield 32, 3) := by decide +kernel
theorem dX1_settle_51 : decode cX1_settle 51 = .ok (.aload_n 0, 1) := by decide +kernel
theorem dX1_settle_52 : decode cX1_settle 52 = .ok (.getfield 12, 3) := by decide +kernel
theorem dX1_settle_55 : decode cX1_settle 55 = .ok (.iload_n 2, 1) := by decide +kernel
theorem dX1_settle_56 : decode cX1_settle 56 = .ok (.ineg, 1) := by decide +kernel
theorem dX1_settle_57 : decode cX1_settle 57 = .ok (.invokevirtual 68, 3) := by decide +kernel
theorem dX1_settle_60 : decode cX1_settle 60 = .ok (.goto (-60), 3) := by decide +kernel
theorem dX1_settle_63 : decode cX1_settle 63 = .ok (.return_, 1) := by decide +kernel
theorem dX1_push_0 : decode cX1_push 0 = .ok (.aload_n 0, 1) := by decide +kernel
theorem dX1_push_1 : decode cX1_push 1 = .ok (.getfield 28, 3) := by decide +kernel
theorem dX1_push_4 : decode cX1_push 4 = .ok (.aload_n 0, 1) := by decide +kernel
theorem dX1_push_5 : decode cX1_push 5 = .ok (.getfield 24, 3) := by decide +kernel
theorem dX1_push_8 : decode cX1_push 8 = .ok (.arraylength, 1) := by decide +kernel
theorem dX1_push_9 : decode cX1_push 9 = .ok (.if_icmp .lt 4, 3) := by decide +kernel
theorem dX1_push_12 : decode cX1_push 12 = .ok (.return_, 1) := by decide +kernel
theorem dX1_push_13 : decode cX1_push 13 = .ok (.aload_n 0, 1) := by decide +kernel
theorem dX1_push_14 : decode cX1_push 14 = .ok (.getfield 24, 3) := by decide +kernel
theorem dX1_push_17 : decode cX1_push 17 = .ok (.aload_n 0, 1) := by decide +kernel
theorem dX1_push_18 : decode cX1_push 18 = .ok (.getfield 28, 3) := by decide +kernel
theorem dX1_push_21 : decode cX1_push 21 = .ok (.iload_n 1, 1) := by decide +kernel
theorem dX1_push_22 : decode cX1_push 22 = .ok (.iastore, 1) := by decide +kernel
theorem dX1_push_23 : decode cX1_push 23 = .ok (.aload_n 0, 1) := by decide +kernel
theorem dX1_push_24 : decode cX1_push 24 = .ok (.dup, 1) := by decide +kernel
theorem dX1_push_25 : decode cX1_push 25 = .ok (.getfield 28, 3) := by decide +kernel
theorem dX1_push_28 : decode cX1_push 28 = .ok (.iconst 1, 1) := by decide +kernel
theorem dX1_push_29 : decode cX1_push 29 = .ok (.iadd, 1) := by decide +kernel
theorem dX1_push_30 : decode cX1_push 30 = .ok (.putfield 28, 3) := by decide +kernel
theorem dX1_push_33 : decode cX1_push 33 = .ok (.return_, 1) := by decide +kernel
theorem dX1_rankOfPending_0 : decode cX1_rankOfPending 0 = .ok (.aload_n 0, 1) := by decide +kernel
theorem dX1_rankOfPending_1 : decode cX1_rankOfPending 1 = .ok (.getfield 28, 3) := by decide +kernel
theorem dX1_rankOfPending_4 : decode cX1_rankOfPending 4 = .ok (.iconst 1, 1) := by decide +kernel
theorem dX1_rankOfPending_5 : decode cX1_rankOfPending 5 = .ok (.aload_n 0, 1) := by decide +kernel
theorem dX1_rankOfPending_6 : decode cX1_rankOfPending 6 = .ok (.getfield 24, 3) := by decide +kernel
theorem dX1_rankOfPending_9 : decode cX1_rankOfPending 9 = .ok (.arraylength, 1) := by decide +kernel
theorem dX1_rankOfPending_10 : decode cX1_rankOfPending 10 = .ok (.invokestatic 81, 3) := by decide +kernel
theorem dX1_rankOfPending_13 : decode cX1_rankOfPending 13 = .ok (.ifCond .eq 20, 3) := by decide +kernel
theorem dX1_rankOfPending_16 : decode cX1_rankOfPending 16 = .ok (.aload_n 0, 1) := by decide +kernel
theorem dX1_rankOfPending_17 : decode cX1_rankOfPending 17 = .ok (.getfield 24, 3) := by decide +kernel
theorem dX1_rankOfPending_20 : decode cX1_rankOfPending 20 = .ok (.aload_n 0, 1) := by decide +kernel
theorem dX1_rankOfPending_21 : decode cX1_rankOfPending 21 = .ok (.getfield 28, 3) := by decide +kernel
theorem dX1_rankOfPending_24 : decode cX1_rankOfPending 24 = .ok (.iconst 1, 1) := by decide +kernel
theorem dX1_rankOfPending_25 : decode cX1_rankOfPending 25 = .ok (.isub, 1) := by decide +kernel
theorem dX1_rankOfPending_26 : decode cX1_rankOfPending 26 = .ok (.iaload, 1) := by decide +kernel
theorem dX1_rankOfPending_27 : decode cX1_rankOfPending 27 = .ok (.invokestatic 78, 3) := by decide +kernel
theorem dX1_rankOfPending_30 : decode cX1_rankOfPending 30 = .ok (.goto 4, 3) := by decide +kernel
theorem dX1_rankOfPending_33 : decode cX1_rankOfPending 33 = .ok (.iconst 0, 1) := by decide +kernel
theorem dX1_rankOfPending_34 : decode cX1_rankOfPending 34 = .ok (.ireturn, 1) := by decide +kernel
theorem dX1_rankOf_0 : decode cX1_rankOf 0 = .ok (.iload_n 0, 1) := by decide +kernel
theorem dX1_rankOf_1 : decode cX1_rankOf 1 = .ok (.lookupswitch 112 #[(33, 109), (37, 107), (38, 101), (42, 107), (43, 105), (45, 105), (47, 107), (60, 103), (61, 103), (62, 103), (124, 99)], 99) := by decide +kernel
theorem dX1_rankOf_100 : decode cX1_rankOf 100 = .ok (.iconst 1, 1) := by decide +kernel
theorem dX1_rankOf_101 : decode cX1_rankOf 101 = .ok (.ireturn, 1) := by decide +kernel
theorem dX1_rankOf_102 : decode cX1_rankOf 102 = .ok (.iconst 2, 1) := by decide +kernel
theorem dX1_rankOf_103 : decode cX1_rankOf 103 = .ok (.ireturn, 1) := by decide +kernel
theorem dX1_rankOf_104 : decode cX1_rankOf 104 = .ok (.iconst 3, 1) := by decide +kernel
theorem dX1_rankOf_105 : decode cX1_rankOf 105 = .ok (.ireturn, 1) := by decide +kernel
theorem dX1_rankOf_106 : decode cX1_rankOf 106 = .ok (.iconst 4, 1) := by decide +kernel
theorem dX1_rankOf_107 : decode cX1_rankOf 107 = .ok (.ireturn, 1) := by decide +kernel
theorem dX1_rankOf_108 : decode cX1_rankOf 108 = .ok (.iconst 5, 1) := by decide +kernel
theorem dX1_rankOf_109 : decode cX1_rankOf 109 = .ok (.ireturn, 1) := by decide +kernel
theorem dX1_rankOf_110 : decode cX1_rankOf 110 = .ok (.bipush 6, 2) := by decide +kernel
theorem dX1_rankOf_112 : decode cX1_rankOf 112 = .ok (.ireturn, 1) := by decide +kernel
theorem dX1_rankOf_113 : decode cX1_rankOf 113 = .ok (.iconst 0, 1) := by decide +kernel
theorem dX1_rankOf_114 : decode cX1_rankOf 114 = .ok (.ireturn, 1) := by decide +kernel
theorem dX1_isDigit_0 : decode cX1_isDigit 0 = .ok (.iload_n 0, 1) := by decide +kernel
theorem dX1_isDigit_1 : decode cX1_isDigit 1 = .ok (.bipush 48, 2) := by decide +kernel
theorem dX1_isDigit_3 : decode cX1_isDigit 3 = .ok (.if_icmp .lt 13, 3) := by decide +kernel
theorem dX1_isDigit_6 : decode cX1_isDigit 6 = .ok (.iload_n 0, 1) := by decide +kernel
theorem dX1_isDigit_7 : decode cX1_isDigit 7 = .ok (.bipush 57, 2) := by decide +kernel
theorem dX1_isDigit_9 : decode cX1_isDigit 9 = .ok (.if_icmp .gt 7, 3) := by decide +kernel
theorem dX1_isDigit_12 : decode cX1_isDigit 12 = .ok (.iconst 1, 1) := by decide +kernel
theorem dX1_isDigit_13 : decode cX1_isDigit 13 = .ok (.goto 4, 3) := by decide +kernel
theorem dX1_isDigit_16 : decode cX1_isDigit 16 = .ok (.iconst 0, 1) := by decide +kernel
theorem dX1_isDigit_17 : decode cX1_isDigit 17 = .ok (.ireturn, 1) := by decide +kernel
theorem dX2_init_0 : decode cX2_init 0 = .ok (.aload_n 0, 1) := by decide +kernel
theorem dX2_init_1 : decode cX2_init 1 = .ok (.invokespecial 3, 3) := by decide +kernel
theorem dX2_init_4 : decode cX2_init 4 = .ok (.aload_n 0, 1) := by decide +kernel
theorem dX2_init_5 : decode cX2_init 5 = .ok (.iconst 4, 1) := by decide +kernel
theorem dX2_init_6 : decode cX2_init 6 = .ok (.newarray .int, 2) := by decide +kernel
theorem dX2_init_8 : decode cX2_init 8 = .ok (.putfield 9, 3) := by decide +kernel
theorem dX2_init_11 : decode cX2_init 11 = .ok (.aload_n 0, 1) := by decide +kernel
theorem dX2_init_12 : decode cX2_init 12 = .ok (.iconst 4, 1) := by decide +kernel
theorem dX2_init_13 : decode cX2_init 13 = .ok (.newarray .int, 2) := by decide +kernel
theorem dX2_init_15 : decode cX2_init 15 = .ok (.putfield 15, 3) := by decide +kernel
theorem dX2_init_18 : decode cX2_init 18 = .ok (.aload_n 0, 1) := by decide +kernel
theorem dX2_init_19 : decode cX2_init 19 = .ok (.iconst 4, 1) := by decide +kernel
theorem dX2_init_20 : decode cX2_init 20 = .ok (.anewarray 18, 3) := by decide +kernel
theorem dX2_init_23 : decode cX2_init 23 = .ok (.putfield 20, 3) := by decide +kernel
theorem dX2_init_26 : decode cX2_init 26 = .ok (.aload_n 0, 1) := by decide +kernel
theorem dX2_init_27 : decode cX2_init 27 = .ok (.iconst 0, 1) := by decide +kernel
theorem dX2_init_28 : decode cX2_init 28 = .ok (.putfield 24, 3) := by decide +kernel
theorem dX2_init_31 : decode cX2_init 31 = .ok (.iconst 0, 1) := by decide +kernel
theorem dX2_init_32 : decode cX2_init 32 = .ok (.istore_n 1, 1) := by decide +kernel
theorem dX2_init_33 : decode cX2_init 33 = .ok (.iload_n 1, 1) := by decide +kernel
theorem dX2_init_34 : decode cX2_init 34 = .ok (.aload_n 0, 1) := by decide +kernel
theorem dX2_init_35 : decode cX2_init 35 = .ok (.getfield 20, 3) := by decide +kernel
theorem dX2_init_38 : decode cX2_init 38 = .ok (.arraylength, 1) := by decide +kernel
theorem dX2_init_39 : decode cX2_init 39 = .ok (.if_icmp .ge 22, 3) := by decide +kernel
theorem dX2_init_42 : decode cX2_init 42 = .ok (.aload_n 0, 1) := by decide +kernel
theorem dX2_init_43 : decode cX2_init 43 = .ok (.getfield 20, 3) := by decide +kernel
theorem dX2_init_46 : decode cX2_init 46 = .ok (.iload_n 1, 1) := by decide +kernel
theorem dX2_init_47 : decode cX2_init 47 = .ok (.new 18, 3) := by decide +kernel
theorem dX2_init_50 : decode cX2_init 50 = .ok (.dup, 1) := by decide +kernel
theorem dX2_init_51 : decode cX2_init 51 = .ok (.invokespecial 28, 3) := by decide +kernel
theorem dX2_init_54 : decode cX2_init 54 = .ok (.aastore, 1) := by decide +kernel
theorem dX2_init_55 : decode cX2_init 55 = .ok (.iinc 1 1, 3) := by decide +kernel
theorem dX2_init_58 : decode cX2_init 58 = .ok (.goto (-25), 3) := by decide +kernel
theorem dX2_init_61 : decode cX2_init 61 = .ok (.return_, 1) := by decide +kernel
theorem dX2_start_0 : decode cX2_start 0 = .ok (.aload_n 0, 1) := by decide +kernel
theorem dX2_start_1 : decode cX2_start 1 = .ok (.iload_n 2, 1) := by decide +kernel
theorem dX2_start_2 : decode cX2_start 2 = .ok (.putfield 24, 3) := by decide +kernel
theorem dX2_start_5 : decode cX2_start 5 = .ok (.iconst 0, 1) := by decide +kernel
theorem dX2_start_6 : decode cX2_start 6 = .ok (.istore_n 3, 1) := by decide +kernel
theorem dX2_start_7 : decode cX2_start 7 = .ok (.iload_n 3, 1) := by decide +kernel
theorem dX2_start_8 : decode cX2_start 8 = .ok (.iconst 4, 1) := by decide +kernel
theorem dX2_start_9 : decode cX2_start 9 = .ok (.if_icmp .ge 33, 3) := by decide +kernel
theorem dX2_start_12 : decode cX2_start 12 = .ok (.aload_n 0, 1) := by decide +kernel
theorem dX2_start_13 : decode cX2_start 13 = .ok (.getfield 9, 3) := by decide +kernel
theorem dX2_start_16 : decode cX2_start 16 = .ok (.iload_n 3, 1) := by decide +kernel
theorem dX2_start_17 : decode cX2_start 17 = .ok (.iconst 0, 1) := by decide +kernel
theorem dX2_start_18 : decode cX2_start 18 = .ok (.iastore, 1) := by decide +kernel
theorem dX2_start_19 : decode cX2_start 19 = .ok (.aload_n 0, 1) := by decide +kernel
theorem dX2_start_20 : decode cX2_start 20 = .ok (.getfield 15, 3) := by decide +kernel
theorem dX2_start_23 : decode cX2_start 23 = .ok (.iload_n 3, 1) := by decide +kernel
theorem dX2_start_24 : decode cX2_start 24 = .ok (.iconst 0, 1) := by decide +kernel
theorem dX2_start_25 : decode cX2_start 25 = .ok (.iastore, 1) := by decide +kernel
theorem dX2_start_26 : decode cX2_start 26 = .ok (.aload_n 0, 1) := by decide +kernel
theorem dX2_start_27 : decode cX2_start 27 = .ok (.getfield 20, 3) := by decide +kernel
theorem dX2_start_30 : decode cX2_start 30 = .ok (.iload_n 3, 1) := by decide +kernel
theorem dX2_start_31 : decode cX2_start 31 = .ok (.aaload, 1) := by decide +kernel
theorem dX2_start_32 : decode cX2_start 32 = .ok (.aload_n 1, 1) := by decide +kernel
theorem dX2_start_33 : decode cX2_start 33 = .ok (.invokevirtual 29, 3) := by decide +kernel
theorem dX2_start_36 : decode cX2_start 36 = .ok (.iinc 3 1, 3) := by decide +kernel
theorem dX2_start_39 : decode cX2_start 39 = .ok (.goto (-32), 3) := by decide +kernel
theorem dX2_start_42 : decode cX2_start 42 = .ok (.return_, 1) := by decide +kernel
theorem dX2_goOn_0 : decode cX2_goOn 0 = .ok (.iconst 3, 1) := by decide +kernel
theorem dX2_goOn_1 : decode cX2_goOn 1 = .ok (.istore_n 1, 1) := by decide +kernel
theorem dX2_goOn_2 : decode cX2_goOn 2 = .ok (.iload_n 1, 1) := by decide +kernel
theorem dX2_goOn_3 : decode cX2_goOn 3 = .ok (.ifCond .le 26, 3) := by decide +kernel
theorem dX2_goOn_6 : decode cX2_goOn 6 = .ok (.aload_n 0, 1) := by decide +kernel
theorem dX2_goOn_7 : decode cX2_goOn 7 = .ok (.getfield 9, 3) := by decide +kernel
theorem dX2_goOn_10 : decode cX2_goOn 10 = .ok (.iload_n 1, 1) := by decide +kernel
theorem dX2_goOn_11 : decode cX2_goOn 11 = .ok (.iaload, 1) := by decide +kernel
theorem dX2_goOn_12 : decode cX2_goOn 12 = .ok (.iconst 4, 1) := by decide +kernel
theorem dX2_goOn_13 : decode cX2_goOn 13 = .ok (.if_icmp .ne 16, 3) := by decide +kernel
theorem dX2_goOn_16 : decode cX2_goOn 16 = .ok (.aload_n 0, 1) := by decide +kernel
theorem dX2_goOn_17 : decode cX2_goOn 17 = .ok (.getfield 9, 3) := by decide +kernel
theorem dX2_goOn_20 : decode cX2_goOn 20 = .ok (.iload_n 1, 1) := by decide +kernel
theorem dX2_goOn_21 : decode cX2_goOn 21 = .ok (.iconst 0, 1) := by decide +kernel
theorem dX2_goOn_22 : decode cX2_goOn 22 = .ok (.iastore, 1) := by decide +kernel
theorem dX2_goOn_23 : decode cX2_goOn 23 = .ok (.iinc 1 (-1), 3) := by decide +kernel
theorem dX2_goOn_26 : decode cX2_goOn 26 = .ok (.goto (-24), 3) := by decide +kernel
theorem dX2_goOn_29 : decode cX2_goOn 29 = .ok (.aload_n 0, 1) := by decide +kernel
theorem dX2_goOn_30 : decode cX2_goOn 30 = .ok (.getfield 9, 3) := by decide +kernel
theorem dX2_goOn_33 : decode cX2_goOn 33 = .ok (.iload_n 1, 1) := by decide +kernel
theorem dX2_goOn_34 : decode cX2_goOn 34 = .ok (.dup2, 1) := by decide +kernel
theorem dX2_goOn_35 : decode cX2_goOn 35 = .ok (.iaload, 1) := by decide +kernel
theorem dX2_goOn_36 : decode cX2_goOn 36 = .ok (.iconst 1, 1) := by decide +kernel
theorem dX2_goOn_37 : decode cX2_goOn 37 = .ok (.iadd, 1) := by decide +kernel
theorem dX2_goOn_38 : decode cX2_goOn 38 = .ok (.iastore, 1) := by decide +kernel
theorem dX2_goOn_39 : decode cX2_goOn 39 = .ok (.aload_n 0, 1) := by decide +kernel
theorem dX2_goOn_40 : decode cX2_goOn 40 = .ok (.getfield 20, 3) := by decide +kernel
theorem dX2_goOn_43 : decode cX2_goOn 43 = .ok (.iload_n 1, 1) := by decide +kernel
theorem dX2_goOn_44 : decode cX2_goOn 44 = .ok (.aaload, 1) := by decide +kernel
theorem dX2_goOn_45 : decode cX2_goOn 45 = .ok (.iload_n 1, 1) := by decide +kernel
theorem dX2_goOn_46 : decode cX2_goOn 46 = .ok (.iconst 1, 1) := by decide +kernel
theorem dX2_goOn_47 : decode cX2_goOn 47 = .ok (.aload_n 0, 1) := by decide +kernel
theorem dX2_goOn_48 : decode cX2_goOn 48 = .ok (.getfield 24, 3) := by decide +kernel
theorem dX2_goOn_51 : decode cX2_goOn 51 = .ok (.invokevirtual 33, 3) := by decide +kernel
theorem dX2_goOn_54 : decode cX2_goOn 54 = .ok (.iload_n 1, 1) := by decide +kernel
theorem dX2_goOn_55 : decode cX2_goOn 55 = .ok (.iconst 1, 1) := by decide +kernel
theorem dX2_goOn_56 : decode cX2_goOn 56 = .ok (.iadd, 1) := by decide +kernel
theorem dX2_goOn_57 : decode cX2_goOn 57 = .ok (.istore_n 2, 1) := by decide +kernel
theorem dX2_goOn_58 : decode cX2_goOn 58 = .ok (.iload_n 2, 1) := by decide +kernel
theorem dX2_goOn_59 : decode cX2_goOn 59 = .ok (.iconst 4, 1) := by decide +kernel
theorem dX2_goOn_60 : decode cX2_goOn 60 = .ok (.if_icmp .ge 24, 3) := by decide +kernel
theorem dX2_goOn_63 : decode cX2_goOn 63 = .ok (.aload_n 0, 1) := by decide +kernel
theorem dX2_goOn_64 : decode cX2_goOn 64 = .ok (.getfield 20, 3) := by decide +kernel
theorem dX2_goOn_67 : decode cX2_goOn 67 = .ok (.iload_n 2, 1) := by decide +kernel
theorem dX2_goOn_68 : decode cX2_goOn 68 = .ok (.aaload, 1) := by decide +kernel
theorem dX2_goOn_69 : decode cX2_goOn 69 = .ok (.aload_n 0, 1) := by decide +kernel
theorem dX2_goOn_70 : decode cX2_goOn 70 = .ok (.getfield 20, 3) := by decide +kernel
theorem dX2_goOn_73 : decode cX2_goOn 73 = .ok (.iload_n 1, 1) := by decide +kernel
theorem dX2_goOn_74 : decode cX2_goOn 74 = .ok (.aaload, 1) := by decide +kernel
theorem dX2_goOn_75 : decode cX2_goOn 75 = .ok (.invokevirtual 29, 3) := by decide +kernel
theorem dX2_goOn_78 : decode cX2_goOn 78 = .ok (.iinc 2 1, 3) := by decide +kernel
theorem dX2_goOn_81 : decode cX2_goOn 81 = .ok (.goto (-23), 3) := by decide +kernel
theorem dX2_goOn_84 : decode cX2_goOn 84 = .ok (.return_, 1) := by decide +kernel
theorem dX2_ground_0 : decode cX2_ground 0 = .ok (.aload_n 0, 1) := by decide +kernel
theorem dX2_ground_1 : decode cX2_ground 1 = .ok (.getfield 20, 3) := by decide +kernel
theorem dX2_ground_4 : decode cX2_ground 4 = .ok (.iconst 3, 1) := by decide +kernel
theorem dX2_ground_5 : decode cX2_ground 5 = .ok (.aaload, 1) := by decide +kernel
theorem dX2_ground_6 : decode cX2_ground 6 = .ok (.areturn, 1) := by decide +kernel
theorem dX2_turns_0 : decode cX2_turns 0 = .ok (.aload_n 0, 1) := by decide +kernel
theorem dX2_turns_1 : decode cX2_turns 1 = .ok (.getfield 9, 3) := by decide +kernel
theorem dX2_turns_4 : decode cX2_turns 4 = .ok (.iconst 0, 1) := by decide +kernel
theorem dX2_turns_5 : decode cX2_turns 5 = .ok (.iaload, 1) := by decide +kernel
theorem dX2_turns_6 : decode cX2_turns 6 = .ok (.aload_n 0, 1) := by decide +kernel
theorem dX2_turns_7 : decode cX2_turns 7 = .ok (.getfield 9, 3) := by decide +kernel
theorem dX2_turns_10 : decode cX2_turns 10 = .ok (.iconst 1, 1) := by decide +kernel
theorem dX2_turns_11 : decode cX2_turns 11 = .ok (.iaload, 1) := by decide +kernel
theorem dX2_turns_12 : decode cX2_turns 12 = .ok (.iadd, 1) := by decide +kernel
theorem dX2_turns_13 : decode cX2_turns 13 = .ok (.aload_n 0, 1) := by decide +kernel
theorem dX2_turns_14 : decode cX2_turns 14 = .ok (.getfield 9, 3) := by decide +kernel
theorem dX2_turns_17 : decode cX2_turns 17 = .ok (.iconst 2, 1) := by decide +kernel
theorem dX2_turns_18 : decode cX2_turns 18 = .ok (.iaload, 1) := by decide +kernel
theorem dX2_turns_19 : decode cX2_turns 19 = .ok (.iadd, 1) := by decide +kernel
theorem dX2_turns_20 : decode cX2_turns 20 = .ok (.aload_n 0, 1) := by decide +kernel
theorem dX2_turns_21 : decode cX2_turns 21 = .ok (.getfield 9, 3) := by decide +kernel
theorem dX2_turns_24 : decode cX2_turns 24 = .ok (.iconst 3, 1) := by decide +kernel
theorem dX2_turns_25 : decode cX2_turns 25 = .ok (.iaload, 1) := by decide +kernel
theorem dX2_turns_26 : decode cX2_turns 26 = .ok (.iadd, 1) := by decide +kernel
theorem dX2_turns_27 : decode cX2_turns 27 = .ok (.ireturn, 1) := by decide +kernel
theorem dX2_choose_0 : decode cX2_choose 0 = .ok (.aload_n 0, 1) := by decide +kernel
theorem dX2_choose_1 : decode cX2_choose 1 = .ok (.getfield 9, 3) := by decide +kernel
theorem dX2_choose_4 : decode cX2_choose 4 = .ok (.iconst 0, 1) := by decide +kernel
theorem dX2_choose_5 : decode cX2_choose 5 = .ok (.aload_n 0, 1) := by decide +kernel
theorem dX2_choose_6 : decode cX2_choose 6 = .ok (.getfield 15, 3) := by decide +kernel
theorem dX2_choose_9 : decode cX2_choose 9 = .ok (.iconst 0, 1) := by decide +kernel
theorem dX2_choose_10 : decode cX2_choose 10 = .ok (.iconst 4, 1) := by decide +kernel
theorem dX2_choose_11 : decode cX2_choose 11 = .ok (.invokestatic 37, 3) := by decide +kernel
theorem dX2_choose_14 : decode cX2_choose 14 = .ok (.return_, 1) := by decide +kernel
theorem dX3_init_0 : decode cX3_init 0 = .ok (.aload_n 0, 1) := by decide +kernel
theorem dX3_init_1 : decode cX3_init 1 = .ok (.invokespecial 3, 3) := by decide +kernel
theorem dX3_init_4 : decode cX3_init 4 = .ok (.aload_n 0, 1) := by decide +kernel
theorem dX3_init_5 : decode cX3_init 5 = .ok (.iconst 0, 1) := by decide +kernel
theorem dX3_init_6 : decode cX3_init 6 = .ok (.putfield 9, 3) := by decide +kernel
theorem dX3_init_9 : decode cX3_init 9 = .ok (.aload_n 0, 1) := by decide +kernel
theorem dX3_init_10 : decode cX3_init 10 = .ok (.iconst 0, 1) := by decide +kernel
theorem dX3_init_11 : decode cX3_init 11 = .ok (.putfield 15, 3) := by decide +kernel
theorem dX3_init_14 : decode cX3_init 14 = .ok (.aload_n 0, 1) := by decide +kernel
theorem dX3_init_15 : decode cX3_init 15 = .ok (.bipush 40, 2) := by decide +kernel
theorem dX3_init_17 : decode cX3_init 17 = .ok (.newarray .int, 2) := by decide +kernel
theorem dX3_init_19 : decode cX3_init 19 = .ok (.putfield 18, 3) := by decide +kernel
theorem dX3_init_22 : decode cX3_init 22 = .ok (.return_, 1) := by decide +kernel
theorem dX3_isMissing_0 : decode cX3_isMissing 0 = .ok (.aload_n 0, 1) := by decide +kernel
theorem dX3_isMissing_1 : decode cX3_isMissing 1 = .ok (.getfield 9, 3) := by decide +kernel
theorem dX3_isMissing_4 : decode cX3_isMissing 4 = .ok (.ifCond .ne 7, 3) := by decide +kernel
theorem dX3_isMissing_7 : decode cX3_isMissing 7 = .ok (.iconst 1, 1) := by decide +kernel
theorem dX3_isMissing_8 : decode cX3_isMissing 8 = .ok (.goto 4, 3) := by decide +kernel
theorem dX3_isMissing_11 : decode cX3_isMissing 11 = .ok (.iconst 0, 1) := by decide +kernel
theorem dX3_isMissing_12 : decode cX3_isMissing 12 = .ok (.ireturn, 1) := by decide +kernel
theorem dX3_make_0 : decode cX3_make 0 = .ok (.aload_n 0, 1) := by decide +kernel
theorem dX3_make_1 : decode cX3_make 1 = .ok (.iload_n 1, 1) := by decide +kernel
theorem dX3_make_2 : decode cX3_make 2 = .ok (.putfield 9, 3) := by decide +kernel
theorem dX3_make_5 : decode cX3_make 5 = .ok (.aload_n 0, 1) := by decide +kernel
theorem dX3_make_6 : decode cX3_make 6 = .ok (.iload_n 2, 1) := by decide +kernel
theorem dX3_make_7 : decode cX3_make 7 = .ok (.putfield 15, 3) := by decide +kernel
theorem dX3_make_10 : decode cX3_make 10 = .ok (.iconst 0, 1) := by decide +kernel
theorem dX3_make_11 : decode cX3_make 11 = .ok (.istore_n 3, 1) := by decide +kernel
theorem dX3_make_12 : decode cX3_make 12 = .ok (.iload_n 3, 1) := by decide +kernel
theorem dX3_make_13 : decode cX3_make 13 = .ok (.aload_n 0, 1) := by decide +kernel
theorem dX3_make_14 : decode cX3_make 14 = .ok (.getfield 18, 3) := by decide +kernel
theorem dX3_make_17 : decode cX3_make 17 = .ok (.arraylength, 1) := by decide +kernel
theorem dX3_make_18 : decode cX3_make 18 = .ok (.if_icmp .ge 16, 3) := by decide +kernel
theorem dX3_make_21 : decode cX3_make 21 = .ok (.aload_n 0, 1) := by decide +kernel
theorem dX3_make_22 : decode cX3_make 22 = .ok (.getfield 18, 3) := by decide +kernel
theorem dX3_make_25 : decode cX3_make 25 = .ok (.iload_n 3, 1) := by decide +kernel
theorem dX3_make_26 : decode cX3_make 26 = .ok (.iconst 0, 1) := by decide +kernel
theorem dX3_make_27 : decode cX3_make 27 = .ok (.iastore, 1) := by decide +kernel
theorem dX3_make_28 : decode cX3_make 28 = .ok (.iinc 3 1, 3) := by decide +kernel
theorem dX3_make_31 : decode cX3_make 31 = .ok (.goto (-19), 3) := by decide +kernel
theorem dX3_make_34 : decode cX3_make 34 = .ok (.return_, 1) := by decide +kernel
theorem dX3_write_0 : decode cX3_write 0 = .ok (.aload_n 0, 1) := by decide +kernel
theorem dX3_write_1 : decode cX3_write 1 = .ok (.getfield 18, 3) := by decide +kernel
theorem dX3_write_4 : decode cX3_write 4 = .ok (.iload_n 1, 1) := by decide +kernel
theorem dX3_write_5 : decode cX3_write 5 = .ok (.aload_n 0, 1) := by decide +kernel
theorem dX3_write_6 : decode cX3_write 6 = .ok (.getfield 9, 3) := by decide +kernel
theorem dX3_write_9 : decode cX3_write 9 = .ok (.bipush 8, 2) := by decide +kernel
theorem dX3_write_11 : decode cX3_write 11 = .ok (.if_icmp .ne 8, 3) := by decide +kernel
theorem dX3_write_14 : decode cX3_write 14 = .ok (.iload_n 2, 1) := by decide +kernel
theorem dX3_write_15 : decode cX3_write 15 = .ok (.i2b, 1) := by decide +kernel
theorem dX3_write_16 : decode cX3_write 16 = .ok (.goto 18, 3) := by decide +kernel
theorem dX3_write_19 : decode cX3_write 19 = .ok (.aload_n 0, 1) := by decide +kernel
theorem dX3_write_20 : decode cX3_write 20 = .ok (.getfield 9, 3) := by decide +kernel
theorem dX3_write_23 : decode cX3_write 23 = .ok (.bipush 16, 2) := by decide +kernel
theorem dX3_write_25 : decode cX3_write 25 = .ok (.if_icmp .ne 8, 3) := by decide +kernel
theorem dX3_write_28 : decode cX3_write 28 = .ok (.iload_n 2, 1) := by decide +kernel
theorem dX3_write_29 : decode cX3_write 29 = .ok (.i2s, 1) := by decide +kernel
theorem dX3_write_30 : decode cX3_write 30 = .ok (.goto 4, 3) := by decide +kernel
theorem dX3_write_33 : decode cX3_write 33 = .ok (.iload_n 2, 1) := by decide +kernel
theorem dX3_write_34 : decode cX3_write 34 = .ok (.iastore, 1) := by decide +kernel
theorem dX3_write_35 : decode cX3_write 35 = .ok (.return_, 1) := by decide +kernel
theorem dX3_has_0 : decode cX3_has 0 = .ok (.iload_n 1, 1) := by decide +kernel
theorem dX3_has_1 : decode cX3_has 1 = .ok (.ifCond .lt 29, 3) := by decide +kernel
theorem dX3_has_4 : decode cX3_has 4 = .ok (.iload_n 2, 1) := by decide +kernel
theorem dX3_has_5 : decode cX3_has 5 = .ok (.ifCond .lt 25, 3) := by decide +kernel
theorem dX3_has_8 : decode cX3_has 8 = .ok (.iload_n 2, 1) := by decide +kernel
theorem dX3_has_9 : decode cX3_has 9 = .ok (.aload_n 0, 1) := by decide +kernel
theorem dX3_has_10 : decode cX3_has 10 = .ok (.getfield 15, 3) := by decide +kernel
theorem dX3_has_13 : decode cX3_has 13 = .ok (.if_icmp .gt 17, 3) := by decide +kernel
theorem dX3_has_16 : decode cX3_has 16 = .ok (.iload_n 1, 1) := by decide +kernel
theorem dX3_has_17 : decode cX3_has 17 = .ok (.aload_n 0, 1) := by decide +kernel
theorem dX3_has_18 : decode cX3_has 18 = .ok (.getfield 15, 3) := by decide +kernel
theorem dX3_has_21 : decode cX3_has 21 = .ok (.iload_n 2, 1) := by decide +kernel
theorem dX3_has_22 : decode cX3_has 22 = .ok (.isub, 1) := by decide +kernel
theorem dX3_has_23 : decode cX3_has 23 = .ok (.if_icmp .gt 7, 3) := by decide +kernel
theorem dX3_has_26 : decode cX3_has 26 = .ok (.iconst 1, 1) := by decide +kernel
theorem dX3_has_27 : decode cX3_has 27 = .ok (.goto 4, 3) := by decide +kernel
theorem dX3_has_30 : decode cX3_has 30 = .ok (.iconst 0, 1) := by decide +kernel
theorem dX3_has_31 : decode cX3_has 31 = .ok (.ireturn, 1) := by decide +kernel
theorem dX4_init_0 : decode cX4_init 0 = .ok (.aload_n 0, 1) := by decide +kernel
theorem dX4_init_1 : decode cX4_init 1 = .ok (.invokespecial 3, 3) := by decide +kernel
theorem dX4_init_4 : decode cX4_init 4 = .ok (.aload_n 0, 1) := by decide +kernel
theorem dX4_init_5 : decode cX4_init 5 = .ok (.bipush 8, 2) := by decide +kernel
theorem dX4_init_7 : decode cX4_init 7 = .ok (.anewarray 9, 3) := by decide +kernel
theorem dX4_init_10 : decode cX4_init 10 = .ok (.putfield 11, 3) := by decide +kernel
theorem dX4_init_13 : decode cX4_init 13 = .ok (.aload_n 0, 1) := by decide +kernel
theorem dX4_init_14 : decode cX4_init 14 = .ok (.iconst 0, 1) := by decide +kernel
theorem dX4_init_15 : decode cX4_init 15 = .ok (.putfield 17, 3) := by decide +kernel
theorem dX4_init_18 : decode cX4_init 18 = .ok (.aload_n 0, 1) := by decide +kernel
theorem dX4_init_19 : decode cX4_init 19 = .ok (.iconst 0, 1) := by decide +kernel
theorem dX4_init_20 : decode cX4_init 20 = .ok (.putfield 21, 3) := by decide +kernel
theorem dX4_init_23 : decode cX4_init 23 = .ok (.aload_n 0, 1) := by decide +kernel
theorem dX4_init_24 : decode cX4_init 24 = .ok (.iconst 0, 1) := by decide +kernel
theorem dX4_init_25 : decode cX4_init 25 = .ok (.putfield 24, 3) := by decide +kernel
theorem dX4_init_28 : decode cX4_init 28 = .ok (.aload_n 0, 1) := by decide +kernel
theorem dX4_init_29 : decode cX4_init 29 = .ok (.iconst 4, 1) := by decide +kernel
theorem dX4_init_30 : decode cX4_init 30 = .ok (.putfield 27, 3) := by decide +kernel
theorem dX4_init_33 : decode cX4_init 33 = .ok (.aload_n 0, 1) := by decide +kernel
theorem dX4_init_34 : decode cX4_init 34 = .ok (.iconst 4, 1) := by decide +kernel
theorem dX4_init_35 : decode cX4_init 35 = .ok (.putfield 30, 3) := by decide +kernel
theorem dX4_init_38 : decode cX4_init 38 = .ok (.aload_n 0, 1) := by decide +kernel
theorem dX4_init_39 : decode cX4_init 39 = .ok (.iconst 3, 1) := by decide +kernel
theorem dX4_init_40 : decode cX4_init 40 = .ok (.putfield 33, 3) := by decide +kernel
theorem dX4_init_43 : decode cX4_init 43 = .ok (.aload_n 0, 1) := by decide +kernel
theorem dX4_init_44 : decode cX4_init 44 = .ok (.iconst 4, 1) := by decide +kernel
theorem dX4_init_45 : decode cX4_init 45 = .ok (.newarray .int, 2) := by decide +kernel
theorem dX4_init_47 : decode cX4_init 47 = .ok (.dup, 1) := by decide +kernel
theorem dX4_init_48 : decode cX4_init 48 = .ok (.iconst 0, 1) := by decide +kernel
theorem dX4_init_49 : decode cX4_init 49 = .ok (.iconst 1, 1) := by decide +kernel
theorem dX4_init_50 : decode cX4_init 50 = .ok (.iastore, 1) := by decide +kernel
theorem dX4_init_51 : decode cX4_init 51 = .ok (.dup, 1) := by decide +kernel
theorem dX4_init_52 : decode cX4_init 52 = .ok (.iconst 1, 1) := by decide +kernel
theorem dX4_init_53 : decode cX4_init 53 = .ok (.iconst 1, 1) := by decide +kernel
theorem dX4_init_54 : decode cX4_init 54 = .ok (.iastore, 1) := by decide +kernel
theorem dX4_init_55 : decode cX4_init 55 = .ok (.dup, 1) := by decide +kernel
theorem dX4_init_56 : decode cX4_init 56 = .ok (.iconst 2, 1) := by decide +kernel
theorem dX4_init_57 : decode cX4_init 57 = .ok (.iconst 1, 1) := by decide +kernel
theorem dX4_init_58 : decode cX4_init 58 = .ok (.iastore, 1) := by decide +kernel
theorem dX4_init_59 : decode cX4_init 59 = .ok (.dup, 1) := by decide +kernel
theorem dX4_init_60 : decode cX4_init 60 = .ok (.iconst 3, 1) := by decide +kernel
theorem dX4_init_61 : decode cX4_init 61 = .ok (.iconst 1, 1) := by decide +kernel
theorem dX4_init_62 : decode cX4_init 62 = .ok (.iastore, 1) := by decide +kernel
theorem dX4_init_63 : decode cX4_init 63 = .ok (.putfield 36, 3) := by decide +kernel
theorem dX4_init_66 : decode cX4_init 66 = .ok (.aload_n 0, 1) := by decide +kernel
theorem dX4_init_67 : decode cX4_init 67 = .ok (.new 40, 3) := by decide +kernel
theorem dX4_init_70 : decode cX4_init 70 = .ok (.dup, 1) := by decide +kernel
theorem dX4_init_71 : decode cX4_init 71 = .ok (.invokespecial 42, 3) := by decide +kernel
theorem dX4_init_74 : decode cX4_init 74 = .ok (.putfield 43, 3) := by decide +kernel
theorem dX4_init_77 : decode cX4_init 77 = .ok (.aload_n 0, 1) := by decide +kernel
theorem dX4_init_78 : decode cX4_init 78 = .ok (.new 40, 3) := by decide +kernel
theorem dX4_init_81 : decode cX4_init 81 = .ok (.dup, 1) := by decide +kernel
theorem dX4_init_82 : decode cX4_init 82 = .ok (.invokespecial 42, 3) := by decide +kernel
theorem dX4_init_85 : decode cX4_init 85 = .ok (.putfield 47, 3) := by decide +kernel
theorem dX4_init_88 : decode cX4_init 88 = .ok (.aload_n 0, 1) := by decide +kernel
theorem dX4_init_89 : decode cX4_init 89 = .ok (.bipush 50, 2) := by decide +kernel
theorem dX4_init_91 : decode cX4_init 91 = .ok (.newarray .int, 2) := by decide +kernel
theorem dX4_init_93 : decode cX4_init 93 = .ok (.putfield 50, 3) := by decide +kernel
theorem dX4_init_96 : decode cX4_init 96 = .ok (.aload_n 0, 1) := by decide +kernel
theorem dX4_init_97 : decode cX4_init 97 = .ok (.iconst 0, 1) := by decide +kernel
theorem dX4_init_98 : decode cX4_init 98 = .ok (.putfield 53, 3) := by decide +kernel
theorem dX4_init_101 : decode cX4_init 101 = .ok (.aload_n 0, 1) := by decide +kernel
theorem dX4_init_102 : decode cX4_init 102 = .ok (.bipush 20, 2) := by decide +kernel
theorem dX4_init_104 : decode cX4_init 104 = .ok (.newarray .int, 2) := by decide +kernel
theorem dX4_init_106 : decode cX4_init 106 = .ok (.putfield 56, 3) := by decide +kernel
theorem dX4_init_109 : decode cX4_init 109 = .ok (.aload_n 0, 1) := by decide +kernel
theorem dX4_init_110 : decode cX4_init 110 = .ok (.iconst 0, 1) := by decide +kernel
theorem dX4_init_111 : decode cX4_init 111 = .ok (.putfield 59, 3) := by decide +kernel
theorem dX4_init_114 : decode cX4_init 114 = .ok (.aload_n 0, 1) := by decide +kernel
theorem dX4_init_115 : decode cX4_init 115 = .ok (.iconst 1, 1) := by decide +kernel
theorem dX4_init_116 : decode cX4_init 116 = .ok (.putfield 62, 3) := by decide +kernel
theorem dX4_init_119 : decode cX4_init 119 = .ok (.aload_n 0, 1) := by decide +kernel
theorem dX4_init_120 : decode cX4_init 120 = .ok (.bipush 8, 2) := by decide +kernel
theorem dX4_init_122 : decode cX4_init 122 = .ok (.newarray .int, 2) := by decide +kernel
theorem dX4_init_124 : decode cX4_init 124 = .ok (.putfield 65, 3) := by decide +kernel
theorem dX4_init_127 : decode cX4_init 127 = .ok (.iconst 0, 1) := by decide +kernel
theorem dX4_init_128 : decode cX4_init 128 = .ok (.istore_n 1, 1) := by decide +kernel
theorem dX4_init_129 : decode cX4_init 129 = .ok (.iload_n 1, 1) := by decide +kernel
theorem dX4_init_130 : decode cX4_init 130 = .ok (.aload_n 0, 1) := by decide +kernel
theorem dX4_init_131 : decode cX4_init 131 = .ok (.getfield 11, 3) := by decide +kernel
theorem dX4_init_134 : decode cX4_init 134 = .ok (.arraylength, 1) := by decide +kernel
theorem dX4_init_135 : decode cX4_init 135 = .ok (.if_icmp .ge 22, 3) := by decide +kernel
theorem dX4_init_138 : decode cX4_init 138 = .ok (.aload_n 0, 1) := by decide +kernel
theorem dX4_init_139 : decode cX4_init 139 = .ok (.getfield 11, 3) := by decide +kernel
theorem dX4_init_142 : decode cX4_init 142 = .ok (.iload_n 1, 1) := by decide +kernel
theorem dX4_init_143 : decode cX4_init 143 = .ok (.new 9, 3) := by decide +kernel
theorem dX4_init_146 : decode cX4_init 146 = .ok (.dup, 1) := by decide +kernel
theorem dX4_init_147 : decode cX4_init 147 = .ok (.invokespecial 68, 3) := by decide +kernel
theorem dX4_init_150 : decode cX4_init 150 = .ok (.aastore, 1) := by decide +kernel
theorem dX4_init_151 : decode cX4_init 151 = .ok (.iinc 1 1, 3) := by decide +kernel
theorem dX4_init_154 : decode cX4_init 154 = .ok (.goto (-25), 3) := by decide +kernel
theorem dX4_init_157 : decode cX4_init 157 = .ok (.return_, 1) := by decide +kernel
theorem dX4_copyFrom_0 : decode cX4_copyFrom 0 = .ok (.iconst 0, 1) := by decide +kernel
theorem dX4_copyFrom_1 : decode cX4_copyFrom 1 = .ok (.istore_n 2, 1) := by decide +kernel
theorem dX4_copyFrom_2 : decode cX4_copyFrom 2 = .ok (.iload_n 2, 1) := by decide +kernel
theorem dX4_copyFrom_3 : decode cX4_copyFrom 3 = .ok (.aload_n 0, 1) := by decide +kernel
theorem dX4_copyFrom_4 : decode cX4_copyFrom 4 = .ok (.getfield 11, 3) := by decide +kernel
theorem dX4_copyFrom_7 : decode cX4_copyFrom 7 = .ok (.arraylength, 1) := by decide +kernel
theorem dX4_copyFrom_8 : decode cX4_copyFrom 8 = .ok (.if_icmp .ge 24, 3) := by decide +kernel
theorem dX4_copyFrom_11 : decode cX4_copyFrom 11 = .ok (.aload_n 0, 1) := by decide +kernel
theorem dX4_copyFrom_12 : decode cX4_copyFrom 12 = .ok (.getfield 11, 3) := by decide +kernel
theorem dX4_copyFrom_15 : decode cX4_copyFrom 15 = .ok (.iload_n 2, 1) := by decide +kernel
theorem dX4_copyFrom_16 : decode cX4_copyFrom 16 = .ok (.aaload, 1) := by decide +kernel
theorem dX4_copyFrom_17 : decode cX4_copyFrom 17 = .ok (.aload_n 1, 1) := by decide +kernel
theorem dX4_copyFrom_18 : decode cX4_copyFrom 18 = .ok (.getfield 11, 3) := by decide +kernel
theorem dX4_copyFrom_21 : decode cX4_copyFrom 21 = .ok (.iload_n 2, 1) := by decide +kernel
theorem dX4_copyFrom_22 : decode cX4_copyFrom 22 = .ok (.aaload, 1) := by decide +kernel
theorem dX4_copyFrom_23 : decode cX4_copyFrom 23 = .ok (.invokevirtual 69, 3) := by decide +kernel
theorem dX4_copyFrom_26 : decode cX4_copyFrom 26 = .ok (.iinc 2 1, 3) := by decide +kernel
theorem dX4_copyFrom_29 : decode cX4_copyFrom 29 = .ok (.goto (-27), 3) := by decide +kernel
theorem dX4_copyFrom_32 : decode cX4_copyFrom 32 = .ok (.aload_n 0, 1) := by decide +kernel
theorem dX4_copyFrom_33 : decode cX4_copyFrom 33 = .ok (.aload_n 1, 1) := by decide +kernel
theorem dX4_copyFrom_34 : decode cX4_copyFrom 34 = .ok (.getfield 17, 3) := by decide +kernel
theorem dX4_copyFrom_37 : decode cX4_copyFrom 37 = .ok (.putfield 17, 3) := by decide +kernel
theorem dX4_copyFrom_40 : decode cX4_copyFrom 40 = .ok (.aload_n 0, 1) := by decide +kernel
theorem dX4_copyFrom_41 : decode cX4_copyFrom 41 = .ok (.aload_n 1, 1) := by decide +kernel
theorem dX4_copyFrom_42 : decode cX4_copyFrom 42 = .ok (.getfield 21, 3) := by decide +kernel
theorem dX4_copyFrom_45 : decode cX4_copyFrom 45 = .ok (.putfield 21, 3) := by decide +kernel
theorem dX4_copyFrom_48 : decode cX4_copyFrom 48 = .ok (.aload_n 0, 1) := by decide +kernel
theorem dX4_copyFrom_49 : decode cX4_copyFrom 49 = .ok (.aload_n 1, 1) := by decide +kernel
theorem dX4_copyFrom_50 : decode cX4_copyFrom 50 = .ok (.getfield 24, 3) := by decide +kernel
theorem dX4_copyFrom_53 : decode cX4_copyFrom 53 = .ok (.putfield 24, 3) := by decide +kernel
theorem dX4_copyFrom_56 : decode cX4_copyFrom 56 = .ok (.aload_n 0, 1) := by decide +kernel
theorem dX4_copyFrom_57 : decode cX4_copyFrom 57 = .ok (.aload_n 1, 1) := by decide +kernel
theorem dX4_copyFrom_58 : decode cX4_copyFrom 58 = .ok (.getfield 27, 3) := by decide +kernel
theorem dX4_copyFrom_61 : decode cX4_copyFrom 61 = .ok (.putfield 27, 3) := by decide +kernel
theorem dX4_copyFrom_64 : decode cX4_copyFrom 64 = .ok (.aload_n 0, 1) := by decide +kernel
theorem dX4_copyFrom_65 : decode cX4_copyFrom 65 = .ok (.aload_n 1, 1) := by decide +kernel
theorem dX4_copyFrom_66 : decode cX4_copyFrom 66 = .ok (.getfield 30, 3) := by decide +kernel
theorem dX4_copyFrom_69 : decode cX4_copyFrom 69 = .ok (.putfield 30, 3) := by decide +kernel
theorem dX4_copyFrom_72 : decode cX4_copyFrom 72 = .ok (.aload_n 0, 1) := by decide +kernel
theorem dX4_copyFrom_73 : decode cX4_copyFrom 73 = .ok (.aload_n 1, 1) := by decide +kernel
theorem dX4_copyFrom_74 : decode cX4_copyFrom 74 = .ok (.getfield 33, 3) := by decide +kernel
theorem dX4_copyFrom_77 : decode cX4_copyFrom 77 = .ok (.putfield 33, 3) := by decide +kernel
theorem dX4_copyFrom_80 : decode cX4_copyFrom 80 = .ok (.aload_n 1, 1) := by decide +kernel
theorem dX4_copyFrom_81 : decode cX4_copyFrom 81 = .ok (.getfield 36, 3) := by decide +kernel
theorem dX4_copyFrom_84 : decode cX4_copyFrom 84 = .ok (.iconst 0, 1) := by decide +kernel
theorem dX4_copyFrom_85 : decode cX4_copyFrom 85 = .ok (.aload_n 0, 1) := by decide +kernel
theorem dX4_copyFrom_86 : decode cX4_copyFrom 86 = .ok (.getfield 36, 3) := by decide +kernel
theorem dX4_copyFrom_89 : decode cX4_copyFrom 89 = .ok (.iconst 0, 1) := by decide +kernel
theorem dX4_copyFrom_90 : decode cX4_copyFrom 90 = .ok (.iconst 4, 1) := by decide +kernel
theorem dX4_copyFrom_91 : decode cX4_copyFrom 91 = .ok (.invokestatic 73, 3) := by decide +kernel
theorem dX4_copyFrom_94 : decode cX4_copyFrom 94 = .ok (.aload_n 0, 1) := by decide +kernel
theorem dX4_copyFrom_95 : decode cX4_copyFrom 95 = .ok (.getfield 43, 3) := by decide +kernel
theorem dX4_copyFrom_98 : decode cX4_copyFrom 98 = .ok (.aload_n 1, 1) := by decide +kernel
theorem dX4_copyFrom_99 : decode cX4_copyFrom 99 = .ok (.getfield 43, 3) := by decide +kernel
theorem dX4_copyFrom_102 : decode cX4_copyFrom 102 = .ok (.invokevirtual 79, 3) := by decide +kernel
theorem dX4_copyFrom_105 : decode cX4_copyFrom 105 = .ok (.aload_n 0, 1) := by decide +kernel
theorem dX4_copyFrom_106 : decode cX4_copyFrom 106 = .ok (.getfield 47, 3) := by decide +kernel
theorem dX4_copyFrom_109 : decode cX4_copyFrom 109 = .ok (.aload_n 1, 1) := by decide +kernel
theorem dX4_copyFrom_110 : decode cX4_copyFrom 110 = .ok (.getfield 47, 3) := by decide +kernel
theorem dX4_copyFrom_113 : decode cX4_copyFrom 113 = .ok (.invokevirtual 79, 3) := by decide +kernel
theorem dX4_copyFrom_116 : decode cX4_copyFrom 116 = .ok (.aload_n 1, 1) := by decide +kernel
theorem dX4_copyFrom_117 : decode cX4_copyFrom 117 = .ok (.getfield 50, 3) := by decide +kernel
theorem dX4_copyFrom_120 : decode cX4_copyFrom 120 = .ok (.iconst 0, 1) := by decide +kernel
theorem dX4_copyFrom_121 : decode cX4_copyFrom 121 = .ok (.aload_n 0, 1) := by decide +kernel
theorem dX4_copyFrom_122 : decode cX4_copyFrom 122 = .ok (.getfield 50, 3) := by decide +kernel
theorem dX4_copyFrom_125 : decode cX4_copyFrom 125 = .ok (.iconst 0, 1) := by decide +kernel
theorem dX4_copyFrom_126 : decode cX4_copyFrom 126 = .ok (.bipush 50, 2) := by decide +kernel
theorem dX4_copyFrom_128 : decode cX4_copyFrom 128 = .ok (.invokestatic 73, 3) := by decide +kernel
theorem dX4_copyFrom_131 : decode cX4_copyFrom 131 = .ok (.aload_n 0, 1) := by decide +kernel
theorem dX4_copyFrom_132 : decode cX4_copyFrom 132 = .ok (.aload_n 1, 1) := by decide +kernel
theorem dX4_copyFrom_133 : decode cX4_copyFrom 133 = .ok (.getfield 53, 3) := by decide +kernel
theorem dX4_copyFrom_136 : decode cX4_copyFrom 136 = .ok (.putfield 53, 3) := by decide +kernel
theorem dX4_copyFrom_139 : decode cX4_copyFrom 139 = .ok (.aload_n 1, 1) := by decide +kernel
theorem dX4_copyFrom_140 : decode cX4_copyFrom 140 = .ok (.getfield 56, 3) := by decide +kernel
theorem dX4_copyFrom_143 : decode cX4_copyFrom 143 = .ok (.iconst 0, 1) := by decide +kernel
theorem dX4_copyFrom_144 : decode cX4_copyFrom 144 = .ok (.aload_n 0, 1) := by decide +kernel
theorem dX4_copyFrom_145 : decode cX4_copyFrom 145 = .ok (.getfield 56, 3) := by decide +kernel
theorem dX4_copyFrom_148 : decode cX4_copyFrom 148 = .ok (.iconst 0, 1) := by decide +kernel
theorem dX4_copyFrom_149 : decode cX4_copyFrom 149 = .ok (.bipush 20, 2) := by decide +kernel
theorem dX4_copyFrom_151 : decode cX4_copyFrom 151 = .ok (.invokestatic 73, 3) := by decide +kernel
theorem dX4_copyFrom_154 : decode cX4_copyFrom 154 = .ok (.aload_n 0, 1) := by decide +kernel
theorem dX4_copyFrom_155 : decode cX4_copyFrom 155 = .ok (.aload_n 1, 1) := by decide +kernel
theorem dX4_copyFrom_156 : decode cX4_copyFrom 156 = .ok (.getfield 59, 3) := by decide +kernel
theorem dX4_copyFrom_159 : decode cX4_copyFrom 159 = .ok (.putfield 59, 3) := by decide +kernel
theorem dX4_copyFrom_162 : decode cX4_copyFrom 162 = .ok (.aload_n 0, 1) := by decide +kernel
theorem dX4_copyFrom_163 : decode cX4_copyFrom 163 = .ok (.aload_n 1, 1) := by decide +kernel
theorem dX4_copyFrom_164 : decode cX4_copyFrom 164 = .ok (.getfield 62, 3) := by decide +kernel
theorem dX4_copyFrom_167 : decode cX4_copyFrom 167 = .ok (.putfield 62, 3) := by decide +kernel
theorem dX4_copyFrom_170 : decode cX4_copyFrom 170 = .ok (.return_, 1) := by decide +kernel
theorem dX4_isFull_0 : decode cX4_isFull 0 = .ok (.aload_n 0, 1) := by decide +kernel
theorem dX4_isFull_1 : decode cX4_isFull 1 = .ok (.getfield 17, 3) := by decide +kernel
theorem dX4_isFull_4 : decode cX4_isFull 4 = .ok (.bipush 8, 2) := by decide +kernel
theorem dX4_isFull_6 : decode cX4_isFull 6 = .ok (.if_icmp .lt 7, 3) := by decide +kernel
theorem dX4_isFull_9 : decode cX4_isFull 9 = .ok (.iconst 1, 1) := by decide +kernel
theorem dX4_isFull_10 : decode cX4_isFull 10 = .ok (.goto 4, 3) := by decide +kernel
theorem dX4_isFull_13 : decode cX4_isFull 13 = .ok (.iconst 0, 1) := by decide +kernel
theorem dX4_isFull_14 : decode cX4_isFull 14 = .ok (.ireturn, 1) := by decide +kernel
theorem dX4_addKnife_0 : decode cX4_addKnife 0 = .ok (.aload_n 0, 1) := by decide +kernel
theorem dX4_addKnife_1 : decode cX4_addKnife 1 = .ok (.getfield 11, 3) := by decide +kernel
theorem dX4_addKnife_4 : decode cX4_addKnife 4 = .ok (.aload_n 0, 1) := by decide +kernel
theorem dX4_addKnife_5 : decode cX4_addKnife 5 = .ok (.getfield 17, 3) := by decide +kernel
theorem dX4_addKnife_8 : decode cX4_addKnife 8 = .ok (.aaload, 1) := by decide +kernel
theorem dX4_addKnife_9 : decode cX4_addKnife 9 = .ok (.iload_n 1, 1) := by decide +kernel
theorem dX4_addKnife_10 : decode cX4_addKnife 10 = .ok (.iload_n 2, 1) := by decide +kernel
theorem dX4_addKnife_11 : decode cX4_addKnife 11 = .ok (.iload_n 3, 1) := by decide +kernel
theorem dX4_addKnife_12 : decode cX4_addKnife 12 = .ok (.invokevirtual 82, 3) := by decide +kernel
theorem dX4_addKnife_15 : decode cX4_addKnife 15 = .ok (.aload_n 0, 1) := by decide +kernel
theorem dX4_addKnife_16 : decode cX4_addKnife 16 = .ok (.dup, 1) := by decide +kernel
theorem dX4_addKnife_17 : decode cX4_addKnife 17 = .ok (.getfield 17, 3) := by decide +kernel
theorem dX4_addKnife_20 : decode cX4_addKnife 20 = .ok (.iconst 1, 1) := by decide +kernel
theorem dX4_addKnife_21 : decode cX4_addKnife 21 = .ok (.iadd, 1) := by decide +kernel
theorem dX4_addKnife_22 : decode cX4_addKnife 22 = .ok (.putfield 17, 3) := by decide +kernel
theorem dX4_addKnife_25 : decode cX4_addKnife 25 = .ok (.aload_n 0, 1) := by decide +kernel
theorem dX4_addKnife_26 : decode cX4_addKnife 26 = .ok (.getfield 17, 3) := by decide +kernel
theorem dX4_addKnife_29 : decode cX4_addKnife 29 = .ok (.iconst 1, 1) := by decide +kernel
theorem dX4_addKnife_30 : decode cX4_addKnife 30 = .ok (.isub, 1) := by decide +kernel
theorem dX4_addKnife_31 : decode cX4_addKnife 31 = .ok (.ireturn, 1) := by decide +kernel
theorem dX4_partOf_0 : decode cX4_partOf 0 = .ok (.iload_n 2, 1) := by decide +kernel
theorem dX4_partOf_1 : decode cX4_partOf 1 = .ok (.bipush 9, 2) := by decide +kernel
theorem dX4_partOf_3 : decode cX4_partOf 3 = .ok (.if_icmp .ne 11, 3) := by decide +kernel
theorem dX4_partOf_6 : decode cX4_partOf 6 = .ok (.aload_n 0, 1) := by decide +kernel
theorem dX4_partOf_7 : decode cX4_partOf 7 = .ok (.aload_n 1, 1) := by decide +kernel
theorem dX4_partOf_8 : decode cX4_partOf 8 = .ok (.invokevirtual 86, 3) := by decide +kernel
theorem dX4_partOf_11 : decode cX4_partOf 11 = .ok (.goto 8, 3) := by decide +kernel
theorem dX4_partOf_14 : decode cX4_partOf 14 = .ok (.aload_n 1, 1) := by decide +kernel
theorem dX4_partOf_15 : decode cX4_partOf 15 = .ok (.iload_n 2, 1) := by decide +kernel
theorem dX4_partOf_16 : decode cX4_partOf 16 = .ok (.invokevirtual 90, 3) := by decide +kernel
theorem dX4_partOf_19 : decode cX4_partOf 19 = .ok (.ireturn, 1) := by decide +kernel
theorem dX4_exchange_0 : decode cX4_exchange 0 = .ok (.iload_n 1, 1) := by decide +kernel
theorem dX4_exchange_1 : decode cX4_exchange 1 = .ok (.tableswitch 66 4 6 #[27, 40, 53], 27) := by decide +kernel
theorem dX4_exchange_28 : decode cX4_exchange 28 = .ok (.aload_n 0, 1) := by decide +kernel
theorem dX4_exchange_29 : decode cX4_exchange 29 = .ok (.getfield 27, 3) := by decide +kernel
theorem dX4_exchange_32 : decode cX4_exchange 32 = .ok (.istore_n 3, 1) := by decide +kernel
theorem dX4_exchange_33 : decode cX4_exchange 33 = .ok (.aload_n 0, 1) := by decide +kernel
theorem dX4_exchange_34 : decode cX4_exchange 34 = .ok (.iload_n 2, 1) := by decide +kernel
theorem dX4_exchange_35 : decode cX4_exchange 35 = .ok (.putfield 27, 3) := by decide +kernel
theorem dX4_exchange_38 : decode cX4_exchange 38 = .ok (.goto 52, 3) := by decide +kernel
theorem dX4_exchange_41 : decode cX4_exchange 41 = .ok (.aload_n 0, 1) := by decide +kernel
theorem dX4_exchange_42 : decode cX4_exchange 42 = .ok (.getfield 30, 3) := by decide +kernel
theorem dX4_exchange_45 : decode cX4_exchange 45 = .ok (.istore_n 3, 1) := by decide +kernel
theorem dX4_exchange_46 : decode cX4_exchange 46 = .ok (.aload_n 0, 1) := by decide +kernel
theorem dX4_exchange_47 : decode cX4_exchange 47 = .ok (.iload_n 2, 1) := by decide +kernel
theorem dX4_exchange_48 : decode cX4_exchange 48 = .ok (.putfield 30, 3) := by decide +kernel
theorem dX4_exchange_51 : decode cX4_exchange 51 = .ok (.goto 39, 3) := by decide +kernel
theorem dX4_exchange_54 : decode cX4_exchange 54 = .ok (.aload_n 0, 1) := by decide +kernel
theorem dX4_exchange_55 : decode cX4_exchange 55 = .ok (.getfield 33, 3) := by decide +kernel
theorem dX4_exchange_58 : decode cX4_exchange 58 = .ok (.istore_n 3, 1) := by decide +kernel
theorem dX4_exchange_59 : decode cX4_exchange 59 = .ok (.aload_n 0, 1) := by decide +kernel
theorem dX4_exchange_60 : decode cX4_exchange 60 = .ok (.iload_n 2, 1) := by decide +kernel
theorem dX4_exchange_61 : decode cX4_exchange 61 = .ok (.putfield 33, 3) := by decide +kernel
theorem dX4_exchange_64 : decode cX4_exchange 64 = .ok (.goto 26, 3) := by decide +kernel
theorem dX4_exchange_67 : decode cX4_exchange 67 = .ok (.iload_n 1, 1) := by decide +kernel
theorem dX4_exchange_68 : decode cX4_exchange 68 = .ok (.invokestatic 94, 3) := by decide +kernel
theorem dX4_exchange_71 : decode cX4_exchange 71 = .ok (.ifCond .ne 5, 3) := by decide +kernel
theorem dX4_exchange_74 : decode cX4_exchange 74 = .ok (.iconst 0, 1) := by decide +kernel
theorem dX4_exchange_75 : decode cX4_exchange 75 = .ok (.ireturn, 1) := by decide +kernel
theorem dX4_exchange_76 : decode cX4_exchange 76 = .ok (.aload_n 0, 1) := by decide +kernel
theorem dX4_exchange_77 : decode cX4_exchange 77 = .ok (.getfield 36, 3) := by decide +kernel
theorem dX4_exchange_80 : decode cX4_exchange 80 = .ok (.iload_n 1, 1) := by decide +kernel
theorem dX4_exchange_81 : decode cX4_exchange 81 = .ok (.iaload, 1) := by decide +kernel
theorem dX4_exchange_82 : decode cX4_exchange 82 = .ok (.istore_n 3, 1) := by decide +kernel
theorem dX4_exchange_83 : decode cX4_exchange 83 = .ok (.aload_n 0, 1) := by decide +kernel
theorem dX4_exchange_84 : decode cX4_exchange 84 = .ok (.getfield 36, 3) := by decide +kernel
theorem dX4_exchange_87 : decode cX4_exchange 87 = .ok (.iload_n 1, 1) := by decide +kernel
theorem dX4_exchange_88 : decode cX4_exchange 88 = .ok (.iload_n 2, 1) := by decide +kernel
theorem dX4_exchange_89 : decode cX4_exchange 89 = .ok (.iastore, 1) := by decide +kernel
theorem dX4_exchange_90 : decode cX4_exchange 90 = .ok (.iload_n 3, 1) := by decide +kernel
theorem dX4_exchange_91 : decode cX4_exchange 91 = .ok (.ireturn, 1) := by decide +kernel
theorem dX4_wearsGives_0 : decode cX4_wearsGives 0 = .ok (.aload_n 0, 1) := by decide +kernel
theorem dX4_wearsGives_1 : decode cX4_wearsGives 1 = .ok (.getfield 43, 3) := by decide +kernel
theorem dX4_wearsGives_4 : decode cX4_wearsGives 4 = .ok (.iload_n 1, 1) := by decide +kernel
theorem dX4_wearsGives_5 : decode cX4_wearsGives 5 = .ok (.iload_n 2, 1) := by decide +kernel
theorem dX4_wearsGives_6 : decode cX4_wearsGives 6 = .ok (.iload_n 3, 1) := by decide +kernel
theorem dX4_wearsGives_7 : decode cX4_wearsGives 7 = .ok (.iload 4, 2) := by decide +kernel
theorem dX4_wearsGives_9 : decode cX4_wearsGives 9 = .ok (.invokevirtual 98, 3) := by decide +kernel
theorem dX4_wearsGives_12 : decode cX4_wearsGives 12 = .ok (.bipush (-9), 2) := by decide +kernel
theorem dX4_wearsGives_14 : decode cX4_wearsGives 14 = .ok (.bipush 9, 2) := by decide +kernel
theorem dX4_wearsGives_16 : decode cX4_wearsGives 16 = .ok (.invokestatic 102, 3) := by decide +kernel
theorem dX4_wearsGives_19 : decode cX4_wearsGives 19 = .ok (.ireturn, 1) := by decide +kernel
theorem dX4_bringsGives_0 : decode cX4_bringsGives 0 = .ok (.aload_n 0, 1) := by decide +kernel
theorem dX4_bringsGives_1 : decode cX4_bringsGives 1 = .ok (.getfield 47, 3) := by decide +kernel
theorem dX4_bringsGives_4 : decode cX4_bringsGives 4 = .ok (.invokevirtual 106, 3) := by decide +kernel
theorem dX4_bringsGives_7 : decode cX4_bringsGives 7 = .ok (.ifCond .eq 17, 3) := by decide +kernel
theorem dX4_bringsGives_10 : decode cX4_bringsGives 10 = .ok (.iload_n 1, 1) := by decide +kernel
theorem dX4_bringsGives_11 : decode cX4_bringsGives 11 = .ok (.bipush 10, 2) := by decide +kernel
theorem dX4_bringsGives_13 : decode cX4_bringsGives 13 = .ok (.iload_n 2, 1) := by decide +kernel
theorem dX4_bringsGives_14 : decode cX4_bringsGives 14 = .ok (.imul, 1) := by decide +kernel
theorem dX4_bringsGives_15 : decode cX4_bringsGives 15 = .ok (.iadd, 1) := by decide +kernel
theorem dX4_bringsGives_16 : decode cX4_bringsGives 16 = .ok (.iconst 5, 1) := by decide +kernel
theorem dX4_bringsGives_17 : decode cX4_bringsGives 17 = .ok (.iload_n 3, 1) := by decide +kernel
theorem dX4_bringsGives_18 : decode cX4_bringsGives 18 = .ok (.imul, 1) := by decide +kernel
theorem dX4_bringsGives_19 : decode cX4_bringsGives 19 = .ok (.isub, 1) := by decide +kernel
theorem dX4_bringsGives_20 : decode cX4_bringsGives 20 = .ok (.bipush 30, 2) := by decide +kernel
theorem dX4_bringsGives_22 : decode cX4_bringsGives 22 = .ok (.isub, 1) := by decide +kernel
theorem dX4_bringsGives_23 : decode cX4_bringsGives 23 = .ok (.ireturn, 1) := by decide +kernel
theorem dX4_bringsGives_24 : decode cX4_bringsGives 24 = .ok (.aload_n 0, 1) := by decide +kernel
theorem dX4_bringsGives_25 : decode cX4_bringsGives 25 = .ok (.getfield 47, 3) := by decide +kernel
theorem dX4_bringsGives_28 : decode cX4_bringsGives 28 = .ok (.iload_n 1, 1) := by decide +kernel
theorem dX4_bringsGives_29 : decode cX4_bringsGives 29 = .ok (.iload_n 2, 1) := by decide +kernel
theorem dX4_bringsGives_30 : decode cX4_bringsGives 30 = .ok (.iload_n 3, 1) := by decide +kernel
theorem dX4_bringsGives_31 : decode cX4_bringsGives 31 = .ok (.iload 4, 2) := by decide +kernel
theorem dX4_bringsGives_33 : decode cX4_bringsGives 33 = .ok (.invokevirtual 98, 3) := by decide +kernel
theorem dX4_bringsGives_36 : decode cX4_bringsGives 36 = .ok (.ireturn, 1) := by decide +kernel
theorem dX4_dullsOf_0 : decode cX4_dullsOf 0 = .ok (.aload_n 0, 1) := by decide +kernel
theorem dX4_dullsOf_1 : decode cX4_dullsOf 1 = .ok (.aload_n 1, 1) := by decide +kernel
theorem dX4_dullsOf_2 : decode cX4_dullsOf 2 = .ok (.getfield 110, 3) := by decide +kernel
theorem dX4_dullsOf_5 : decode cX4_dullsOf 5 = .ok (.aload_n 1, 1) := by decide +kernel
theorem dX4_dullsOf_6 : decode cX4_dullsOf 6 = .ok (.getfield 113, 3) := by decide +kernel
theorem dX4_dullsOf_9 : decode cX4_dullsOf 9 = .ok (.aload_n 1, 1) := by decide +kernel
theorem dX4_dullsOf_10 : decode cX4_dullsOf 10 = .ok (.getfield 116, 3) := by decide +kernel
theorem dX4_dullsOf_13 : decode cX4_dullsOf 13 = .ok (.aload_n 1, 1) := by decide +kernel
theorem dX4_dullsOf_14 : decode cX4_dullsOf 14 = .ok (.getfield 119, 3) := by decide +kernel
theorem dX4_dullsOf_17 : decode cX4_dullsOf 17 = .ok (.invokevirtual 122, 3) := by decide +kernel
theorem dX4_dullsOf_20 : decode cX4_dullsOf 20 = .ok (.istore_n 2, 1) := by decide +kernel
theorem dX4_dullsOf_21 : decode cX4_dullsOf 21 = .ok (.aload_n 1, 1) := by decide +kernel
theorem dX4_dullsOf_22 : decode cX4_dullsOf 22 = .ok (.invokevirtual 125, 3) := by decide +kernel
theorem dX4_dullsOf_25 : decode cX4_dullsOf 25 = .ok (.iload_n 2, 1) := by decide +kernel
theorem dX4_dullsOf_26 : decode cX4_dullsOf 26 = .ok (.iadd, 1) := by decide +kernel
theorem dX4_dullsOf_27 : decode cX4_dullsOf 27 = .ok (.iconst 0, 1) := by decide +kernel
theorem dX4_dullsOf_28 : decode cX4_dullsOf 28 = .ok (.bipush 99, 2) := by decide +kernel
theorem dX4_dullsOf_30 : decode cX4_dullsOf 30 = .ok (.invokestatic 102, 3) := by decide +kernel
theorem dX4_dullsOf_33 : decode cX4_dullsOf 33 = .ok (.ireturn, 1) := by decide +kernel
theorem dX4_ring_0 : decode cX4_ring 0 = .ok (.iconst 0, 1) := by decide +kernel
theorem dX4_ring_1 : decode cX4_ring 1 = .ok (.istore_n 1, 1) := by decide +kernel
theorem dX4_ring_2 : decode cX4_ring 2 = .ok (.iconst 0, 1) := by decide +kernel
theorem dX4_ring_3 : decode cX4_ring 3 = .ok (.istore_n 2, 1) := by decide +kernel
theorem dX4_ring_4 : decode cX4_ring 4 = .ok (.iload_n 2, 1) := by decide +kernel
theorem dX4_ring_5 : decode cX4_ring 5 = .ok (.aload_n 0, 1) := by decide +kernel
theorem dX4_ring_6 : decode cX4_ring 6 = .ok (.getfield 65, 3) := by decide +kernel
theorem dX4_ring_9 : decode cX4_ring 9 = .ok (.arraylength, 1) := by decide +kernel
theorem dX4_ring_10 : decode cX4_ring 10 = .ok (.if_icmp .ge 16, 3) := by decide +kernel
theorem dX4_ring_13 : decode cX4_ring 13 = .ok (.aload_n 0, 1) := by decide +kernel
theorem dX4_ring_14 : decode cX4_ring 14 = .ok (.getfield 65, 3) := by decide +kernel
theorem dX4_ring_17 : decode cX4_ring 17 = .ok (.iload_n 2, 1) := by decide +kernel
theorem dX4_ring_18 : decode cX4_ring 18 = .ok (.iconst 0, 1) := by decide +kernel
theorem dX4_ring_19 : decode cX4_ring 19 = .ok (.iastore, 1) := by decide +kernel
theorem dX4_ring_20 : decode cX4_ring 20 = .ok (.iinc 2 1, 3) := by decide +kernel
theorem dX4_ring_23 : decode cX4_ring 23 = .ok (.goto (-19), 3) := by decide +kernel
theorem dX4_ring_26 : decode cX4_ring 26 = .ok (.iconst 0, 1) := by decide +kernel
theorem dX4_ring_27 : decode cX4_ring 27 = .ok (.istore_n 2, 1) := by decide +kernel
theorem dX4_ring_28 : decode cX4_ring 28 = .ok (.iload_n 2, 1) := by decide +kernel
theorem dX4_ring_29 : decode cX4_ring 29 = .ok (.aload_n 0, 1) := by decide +kernel
theorem dX4_ring_30 : decode cX4_ring 30 = .ok (.getfield 17, 3) := by decide +kernel
theorem dX4_ring_33 : decode cX4_ring 33 = .ok (.if_icmp .ge 132, 3) := by decide +kernel
theorem dX4_ring_36 : decode cX4_ring 36 = .ok (.iload_n 2, 1) := by decide +kernel
theorem dX4_ring_37 : decode cX4_ring 37 = .ok (.aload_n 0, 1) := by decide +kernel
theorem dX4_ring_38 : decode cX4_ring 38 = .ok (.getfield 11, 3) := by decide +kernel
theorem dX4_ring_41 : decode cX4_ring 41 = .ok (.arraylength, 1) := by decide +kernel
theorem dX4_ring_42 : decode cX4_ring 42 = .ok (.if_icmp .ge 123, 3) := by decide +kernel
theorem dX4_ring_45 : decode cX4_ring 45 = .ok (.aload_n 0, 1) := by decide +kernel
theorem dX4_ring_46 : decode cX4_ring 46 = .ok (.getfield 11, 3) := by decide +kernel
theorem dX4_ring_49 : decode cX4_ring 49 = .ok (.iload_n 2, 1) := by decide +kernel
theorem dX4_ring_50 : decode cX4_ring 50 = .ok (.aaload, 1) := by decide +kernel
theorem dX4_ring_51 : decode cX4_ring 51 = .ok (.astore_n 3, 1) := by decide +kernel
theorem dX4_ring_52 : decode cX4_ring 52 = .ok (.aload_n 3, 1) := by decide +kernel
theorem dX4_ring_53 : decode cX4_ring 53 = .ok (.getfield 129, 3) := by decide +kernel
theorem dX4_ring_56 : decode cX4_ring 56 = .ok (.iconst 0, 1) := by decide +kernel
theorem dX4_ring_57 : decode cX4_ring 57 = .ok (.iconst 5, 1) := by decide +kernel
theorem dX4_ring_58 : decode cX4_ring 58 = .ok (.invokestatic 102, 3) := by decide +kernel
theorem dX4_ring_61 : decode cX4_ring 61 = .ok (.iconst 1, 1) := by decide +kernel
theorem dX4_ring_62 : decode cX4_ring 62 = .ok (.iadd, 1) := by decide +kernel
theorem dX4_ring_63 : decode cX4_ring 63 = .ok (.istore 4, 2) := by decide +kernel
theorem dX4_ring_65 : decode cX4_ring 65 = .ok (.aload_n 0, 1) := by decide +kernel
theorem dX4_ring_66 : decode cX4_ring 66 = .ok (.getfield 65, 3) := by decide +kernel
theorem dX4_ring_69 : decode cX4_ring 69 = .ok (.iload 4, 2) := by decide +kernel
theorem dX4_ring_71 : decode cX4_ring 71 = .ok (.iconst 1, 1) := by decide +kernel
theorem dX4_ring_72 : decode cX4_ring 72 = .ok (.isub, 1) := by decide +kernel
theorem dX4_ring_73 : decode cX4_ring 73 = .ok (.iaload, 1) := by decide +kernel
theorem dX4_ring_74 : decode cX4_ring 74 = .ok (.aload_n 0, 1) := by decide +kernel
theorem dX4_ring_75 : decode cX4_ring 75 = .ok (.getfield 65, 3) := by decide +kernel
theorem dX4_ring_78 : decode cX4_ring 78 = .ok (.iload 4, 2) := by decide +kernel
theorem dX4_ring_80 : decode cX4_ring 80 = .ok (.iconst 1, 1) := by decide +kernel
theorem dX4_ring_81 : decode cX4_ring 81 = .ok (.iadd, 1) := by decide +kernel
theorem dX4_ring_82 : decode cX4_ring 82 = .ok (.iaload, 1) := by decide +kernel
theorem dX4_ring_83 : decode cX4_ring 83 = .ok (.iadd, 1) := by decide +kernel
theorem dX4_ring_84 : decode cX4_ring 84 = .ok (.istore 5, 2) := by decide +kernel
theorem dX4_ring_86 : decode cX4_ring 86 = .ok (.aload_n 3, 1) := by decide +kernel
theorem dX4_ring_87 : decode cX4_ring 87 = .ok (.getfield 132, 3) := by decide +kernel
theorem dX4_ring_90 : decode cX4_ring 90 = .ok (.bipush 6, 2) := by decide +kernel
theorem dX4_ring_92 : decode cX4_ring 92 = .ok (.if_icmp .eq 67, 3) := by decide +kernel
theorem dX4_ring_95 : decode cX4_ring 95 = .ok (.aload_n 0, 1) := by decide +kernel
theorem dX4_ring_96 : decode cX4_ring 96 = .ok (.bipush 99, 2) := by decide +kernel
theorem dX4_ring_98 : decode cX4_ring 98 = .ok (.aload_n 3, 1) := by decide +kernel
theorem dX4_ring_99 : decode cX4_ring 99 = .ok (.getfield 113, 3) := by decide +kernel
theorem dX4_ring_102 : decode cX4_ring 102 = .ok (.isub, 1) := by decide +kernel
theorem dX4_ring_103 : decode cX4_ring 103 = .ok (.iload 5, 2) := by decide +kernel
theorem dX4_ring_105 : decode cX4_ring 105 = .ok (.aload_n 0, 1) := by decide +kernel
theorem dX4_ring_106 : decode cX4_ring 106 = .ok (.getfield 30, 3) := by decide +kernel
theorem dX4_ring_109 : decode cX4_ring 109 = .ok (.aload_n 3, 1) := by decide +kernel
theorem dX4_ring_110 : decode cX4_ring 110 = .ok (.getfield 129, 3) := by decide +kernel
theorem dX4_ring_113 : decode cX4_ring 113 = .ok (.invokevirtual 135, 3) := by decide +kernel
theorem dX4_ring_116 : decode cX4_ring 116 = .ok (.ifCond .gt 6, 3) := by decide +kernel
theorem dX4_ring_119 : decode cX4_ring 119 = .ok (.goto 40, 3) := by decide +kernel
theorem dX4_ring_122 : decode cX4_ring 122 = .ok (.aload_n 0, 1) := by decide +kernel
theorem dX4_ring_123 : decode cX4_ring 123 = .ok (.aload_n 3, 1) := by decide +kernel
theorem dX4_ring_124 : decode cX4_ring 124 = .ok (.invokevirtual 138, 3) := by decide +kernel
theorem dX4_ring_127 : decode cX4_ring 127 = .ok (.aload_n 0, 1) := by decide +kernel
theorem dX4_ring_128 : decode cX4_ring 128 = .ok (.aload_n 0, 1) := by decide +kernel
theorem dX4_ring_129 : decode cX4_ring 129 = .ok (.getfield 24, 3) := by decide +kernel
theorem dX4_ring_132 : decode cX4_ring 132 = .ok (.aload_n 0, 1) := by decide +kernel
theorem dX4_ring_133 : decode cX4_ring 133 = .ok (.getfield 30, 3) := by decide +kernel
theorem dX4_ring_136 : decode cX4_ring 136 = .ok (.iadd, 1) := by decide +kernel
theorem dX4_ring_137 : decode cX4_ring 137 = .ok (.ldc 141, 2) := by decide +kernel
theorem dX4_ring_139 : decode cX4_ring 139 = .ok (.invokestatic 142, 3) := by decide +kernel
theorem dX4_ring_142 : decode cX4_ring 142 = .ok (.putfield 24, 3) := by decide +kernel
theorem dX4_ring_145 : decode cX4_ring 145 = .ok (.aload_n 0, 1) := by decide +kernel
theorem dX4_ring_146 : decode cX4_ring 146 = .ok (.getfield 65, 3) := by decide +kernel
theorem dX4_ring_149 : decode cX4_ring 149 = .ok (.iload 4, 2) := by decide +kernel
theorem dX4_ring_151 : decode cX4_ring 151 = .ok (.dup2, 1) := by decide +kernel
theorem dX4_ring_152 : decode cX4_ring 152 = .ok (.iaload, 1) := by decide +kernel
theorem dX4_ring_153 : decode cX4_ring 153 = .ok (.iconst 1, 1) := by decide +kernel
theorem dX4_ring_154 : decode cX4_ring 154 = .ok (.iadd, 1) := by decide +kernel
theorem dX4_ring_155 : decode cX4_ring 155 = .ok (.iastore, 1) := by decide +kernel
theorem dX4_ring_156 : decode cX4_ring 156 = .ok (.iinc 1 1, 3) := by decide +kernel
theorem dX4_ring_159 : decode cX4_ring 159 = .ok (.iinc 2 1, 3) := by decide +kernel
theorem dX4_ring_162 : decode cX4_ring 162 = .ok (.goto (-134), 3) := by decide +kernel
theorem dX4_ring_165 : decode cX4_ring 165 = .ok (.iload_n 1, 1) := by decide +kernel
theorem dX4_ring_166 : decode cX4_ring 166 = .ok (.ireturn, 1) := by decide +kernel
theorem dX4_grindByRecipe_0 : decode cX4_grindByRecipe 0 = .ok (.iconst 0, 1) := by decide +kernel
theorem dX4_grindByRecipe_1 : decode cX4_grindByRecipe 1 = .ok (.istore_n 2, 1) := by decide +kernel
theorem dX4_grindByRecipe_2 : decode cX4_grindByRecipe 2 = .ok (.iload_n 2, 1) := by decide +kernel
theorem dX4_grindByRecipe_3 : decode cX4_grindByRecipe 3 = .ok (.aload_n 0, 1) := by decide +kernel
theorem dX4_grindByRecipe_4 : decode cX4_grindByRecipe 4 = .ok (.getfield 36, 3) := by decide +kernel
theorem dX4_grindByRecipe_7 : decode cX4_grindByRecipe 7 = .ok (.arraylength, 1) := by decide +kernel
theorem dX4_grindByRecipe_8 : decode cX4_grindByRecipe 8 = .ok (.if_icmp .ge 24, 3) := by decide +kernel
theorem dX4_grindByRecipe_11 : decode cX4_grindByRecipe 11 = .ok (.aload_n 1, 1) := by decide +kernel
theorem dX4_grindByRecipe_12 : decode cX4_grindByRecipe 12 = .ok (.iload_n 2, 1) := by decide +kernel
theorem dX4_grindByRecipe_13 : decode cX4_grindByRecipe 13 = .ok (.aload_n 0, 1) := by decide +kernel
theorem dX4_grindByRecipe_14 : decode cX4_grindByRecipe 14 = .ok (.getfield 36, 3) := by decide +kernel
theorem dX4_grindByRecipe_17 : decode cX4_grindByRecipe 17 = .ok (.iload_n 2, 1) := by decide +kernel
theorem dX4_grindByRecipe_18 : decode cX4_grindByRecipe 18 = .ok (.iaload, 1) := by decide +kernel
theorem dX4_grindByRecipe_19 : decode cX4_grindByRecipe 19 = .ok (.aload_n 0, 1) := by decide +kernel
theorem dX4_grindByRecipe_20 : decode cX4_grindByRecipe 20 = .ok (.getfield 27, 3) := by decide +kernel
theorem dX4_grindByRecipe_23 : decode cX4_grindByRecipe 23 = .ok (.invokevirtual 148, 3) := by decide +kernel
theorem dX4_grindByRecipe_26 : decode cX4_grindByRecipe 26 = .ok (.iinc 2 1, 3) := by decide +kernel
theorem dX4_grindByRecipe_29 : decode cX4_grindByRecipe 29 = .ok (.goto (-27), 3) := by decide +kernel
theorem dX4_grindByRecipe_32 : decode cX4_grindByRecipe 32 = .ok (.aload_n 1, 1) := by decide +kernel
theorem dX4_grindByRecipe_33 : decode cX4_grindByRecipe 33 = .ok (.aload_n 1, 1) := by decide +kernel
theorem dX4_grindByRecipe_34 : decode cX4_grindByRecipe 34 = .ok (.getfield 151, 3) := by decide +kernel
theorem dX4_grindByRecipe_37 : decode cX4_grindByRecipe 37 = .ok (.iconst 1, 1) := by decide +kernel
theorem dX4_grindByRecipe_38 : decode cX4_grindByRecipe 38 = .ok (.iadd, 1) := by decide +kernel
theorem dX4_grindByRecipe_39 : decode cX4_grindByRecipe 39 = .ok (.sipush 9999, 3) := by decide +kernel
theorem dX4_grindByRecipe_42 : decode cX4_grindByRecipe 42 = .ok (.invokestatic 142, 3) := by decide +kernel
theorem dX4_grindByRecipe_45 : decode cX4_grindByRecipe 45 = .ok (.putfield 151, 3) := by decide +kernel
theorem dX4_grindByRecipe_48 : decode cX4_grindByRecipe 48 = .ok (.return_, 1) := by decide +kernel
theorem dX4_pass_0 : decode cX4_pass 0 = .ok (.iconst 0, 1) := by decide +kernel
theorem dX4_pass_1 : decode cX4_pass 1 = .ok (.istore_n 3, 1) := by decide +kernel
theorem dX4_pass_2 : decode cX4_pass 2 = .ok (.iload_n 3, 1) := by decide +kernel
theorem dX4_pass_3 : decode cX4_pass 3 = .ok (.iload_n 1, 1) := by decide +kernel
theorem dX4_pass_4 : decode cX4_pass 4 = .ok (.if_icmp .ge 51, 3) := by decide +kernel
theorem dX4_pass_7 : decode cX4_pass 7 = .ok (.aload_n 0, 1) := by decide +kernel
theorem dX4_pass_8 : decode cX4_pass 8 = .ok (.getfield 33, 3) := by decide +kernel
theorem dX4_pass_11 : decode cX4_pass 11 = .ok (.ifCond .le 23, 3) := by decide +kernel
theorem dX4_pass_14 : decode cX4_pass 14 = .ok (.aload_n 0, 1) := by decide +kernel
theorem dX4_pass_15 : decode cX4_pass 15 = .ok (.getfield 21, 3) := by decide +kernel
theorem dX4_pass_18 : decode cX4_pass 18 = .ok (.bipush 7, 2) := by decide +kernel
theorem dX4_pass_20 : decode cX4_pass 20 = .ok (.aload_n 0, 1) := by decide +kernel
theorem dX4_pass_21 : decode cX4_pass 21 = .ok (.getfield 33, 3) := by decide +kernel
theorem dX4_pass_24 : decode cX4_pass 24 = .ok (.imul, 1) := by decide +kernel
theorem dX4_pass_25 : decode cX4_pass 25 = .ok (.irem, 1) := by decide +kernel
theorem dX4_pass_26 : decode cX4_pass 26 = .ok (.ifCond .ne 8, 3) := by decide +kernel
theorem dX4_pass_29 : decode cX4_pass 29 = .ok (.aload_n 0, 1) := by decide +kernel
theorem dX4_pass_30 : decode cX4_pass 30 = .ok (.invokevirtual 154, 3) := by decide +kernel
theorem dX4_pass_33 : decode cX4_pass 33 = .ok (.pop, 1) := by decide +kernel
theorem dX4_pass_34 : decode cX4_pass 34 = .ok (.aload_n 0, 1) := by decide +kernel
theorem dX4_pass_35 : decode cX4_pass 35 = .ok (.iload_n 2, 1) := by decide +kernel
theorem dX4_pass_36 : decode cX4_pass 36 = .ok (.invokevirtual 157, 3) := by decide +kernel
theorem dX4_pass_39 : decode cX4_pass 39 = .ok (.aload_n 0, 1) := by decide +kernel
theorem dX4_pass_40 : decode cX4_pass 40 = .ok (.dup, 1) := by decide +kernel
theorem dX4_pass_41 : decode cX4_pass 41 = .ok (.getfield 21, 3) := by decide +kernel
theorem dX4_pass_44 : decode cX4_pass 44 = .ok (.iconst 1, 1) := by decide +kernel
theorem dX4_pass_45 : decode cX4_pass 45 = .ok (.iadd, 1) := by decide +kernel
theorem dX4_pass_46 : decode cX4_pass 46 = .ok (.putfield 21, 3) := by decide +kernel
theorem dX4_pass_49 : decode cX4_pass 49 = .ok (.iinc 3 1, 3) := by decide +kernel
theorem dX4_pass_52 : decode cX4_pass 52 = .ok (.goto (-50), 3) := by decide +kernel
theorem dX4_pass_55 : decode cX4_pass 55 = .ok (.return_, 1) := by decide +kernel
theorem dX4_useAll_0 : decode cX4_useAll 0 = .ok (.iconst 0, 1) := by decide +kernel
theorem dX4_useAll_1 : decode cX4_useAll 1 = .ok (.istore_n 2, 1) := by decide +kernel
theorem dX4_useAll_2 : decode cX4_useAll 2 = .ok (.iload_n 2, 1) := by decide +kernel
theorem dX4_useAll_3 : decode cX4_useAll 3 = .ok (.aload_n 0, 1) := by decide +kernel
theorem dX4_useAll_4 : decode cX4_useAll 4 = .ok (.getfield 17, 3) := by decide +kernel
theorem dX4_useAll_7 : decode cX4_useAll 7 = .ok (.if_icmp .ge 106, 3) := by decide +kernel
theorem dX4_useAll_10 : decode cX4_useAll 10 = .ok (.iload_n 2, 1) := by decide +kernel
theorem dX4_useAll_11 : decode cX4_useAll 11 = .ok (.aload_n 0, 1) := by decide +kernel
theorem dX4_useAll_12 : decode cX4_useAll 12 = .ok (.getfield 11, 3) := by decide +kernel
theorem dX4_useAll_15 : decode cX4_useAll 15 = .ok (.arraylength, 1) := by decide +kernel
theorem dX4_useAll_16 : decode cX4_useAll 16 = .ok (.if_icmp .ge 97, 3) := by decide +kernel
theorem dX4_useAll_19 : decode cX4_useAll 19 = .ok (.aload_n 0, 1) := by decide +kernel
theorem dX4_useAll_20 : decode cX4_useAll 20 = .ok (.getfield 11, 3) := by decide +kernel
theorem dX4_useAll_23 : decode cX4_useAll 23 = .ok (.iload_n 2, 1) := by decide +kernel
theorem dX4_useAll_24 : decode cX4_useAll 24 = .ok (.aaload, 1) := by decide +kernel
theorem dX4_useAll_25 : decode cX4_useAll 25 = .ok (.astore_n 3, 1) := by decide +kernel
theorem dX4_useAll_26 : decode cX4_useAll 26 = .ok (.iload_n 1, 1) := by decide +kernel
theorem dX4_useAll_27 : decode cX4_useAll 27 = .ok (.ifCond .eq 16, 3) := by decide +kernel
theorem dX4_useAll_30 : decode cX4_useAll 30 = .ok (.aload_n 0, 1) := by decide +kernel
theorem dX4_useAll_31 : decode cX4_useAll 31 = .ok (.invokevirtual 161, 3) := by decide +kernel
theorem dX4_useAll_34 : decode cX4_useAll 34 = .ok (.iconst 4, 1) := by decide +kernel
theorem dX4_useAll_35 : decode cX4_useAll 35 = .ok (.irem, 1) := by decide +kernel
theorem dX4_useAll_36 : decode cX4_useAll 36 = .ok (.ifCond .ne 7, 3) := by decide +kernel
theorem dX4_useAll_39 : decode cX4_useAll 39 = .ok (.iconst 1, 1) := by decide +kernel
theorem dX4_useAll_40 : decode cX4_useAll 40 = .ok (.goto 4, 3) := by decide +kernel
theorem dX4_useAll_43 : decode cX4_useAll 43 = .ok (.iconst 0, 1) := by decide +kernel
theorem dX4_useAll_44 : decode cX4_useAll 44 = .ok (.istore 4, 2) := by decide +kernel
theorem dX4_useAll_46 : decode cX4_useAll 46 = .ok (.iload 4, 2) := by decide +kernel
theorem dX4_useAll_48 : decode cX4_useAll 48 = .ok (.ifCond .eq 12, 3) := by decide +kernel
theorem dX4_useAll_51 : decode cX4_useAll 51 = .ok (.iconst 2, 1) := by decide +kernel
theorem dX4_useAll_52 : decode cX4_useAll 52 = .ok (.aload_n 3, 1) := by decide +kernel
theorem dX4_useAll_53 : decode cX4_useAll 53 = .ok (.getfield 164, 3) := by decide +kernel
theorem dX4_useAll_56 : decode cX4_useAll 56 = .ok (.imul, 1) := by decide +kernel
theorem dX4_useAll_57 : decode cX4_useAll 57 = .ok (.goto 7, 3) := by decide +kernel
theorem dX4_useAll_60 : decode cX4_useAll 60 = .ok (.aload_n 3, 1) := by decide +kernel
theorem dX4_useAll_61 : decode cX4_useAll 61 = .ok (.getfield 164, 3) := by decide +kernel
theorem dX4_useAll_64 : decode cX4_useAll 64 = .ok (.istore 5, 2) := by decide +kernel
theorem dX4_useAll_66 : decode cX4_useAll 66 = .ok (.aload_n 3, 1) := by decide +kernel
theorem dX4_useAll_67 : decode cX4_useAll 67 = .ok (.iconst 0, 1) := by decide +kernel
theorem dX4_useAll_68 : decode cX4_useAll 68 = .ok (.putfield 167, 3) := by decide +kernel
theorem dX4_useAll_71 : decode cX4_useAll 71 = .ok (.iload 5, 2) := by decide +kernel
theorem dX4_useAll_73 : decode cX4_useAll 73 = .ok (.ifCond .eq 34, 3) := by decide +kernel
theorem dX4_useAll_76 : decode cX4_useAll 76 = .ok (.aload_n 3, 1) := by decide +kernel
theorem dX4_useAll_77 : decode cX4_useAll 77 = .ok (.getfield 113, 3) := by decide +kernel
theorem dX4_useAll_80 : decode cX4_useAll 80 = .ok (.ifCond .ne 6, 3) := by decide +kernel
theorem dX4_useAll_83 : decode cX4_useAll 83 = .ok (.goto 24, 3) := by decide +kernel
theorem dX4_useAll_86 : decode cX4_useAll 86 = .ok (.aload_n 3, 1) := by decide +kernel
theorem dX4_useAll_87 : decode cX4_useAll 87 = .ok (.aload_n 3, 1) := by decide +kernel
theorem dX4_useAll_88 : decode cX4_useAll 88 = .ok (.getfield 113, 3) := by decide +kernel
theorem dX4_useAll_91 : decode cX4_useAll 91 = .ok (.iload 5, 2) := by decide +kernel
theorem dX4_useAll_93 : decode cX4_useAll 93 = .ok (.aload_n 0, 1) := by decide +kernel
theorem dX4_useAll_94 : decode cX4_useAll 94 = .ok (.aload_n 3, 1) := by decide +kernel
theorem dX4_useAll_95 : decode cX4_useAll 95 = .ok (.invokevirtual 86, 3) := by decide +kernel
theorem dX4_useAll_98 : decode cX4_useAll 98 = .ok (.imul, 1) := by decide +kernel
theorem dX4_useAll_99 : decode cX4_useAll 99 = .ok (.isub, 1) := by decide +kernel
theorem dX4_useAll_100 : decode cX4_useAll 100 = .ok (.iconst 0, 1) := by decide +kernel
theorem dX4_useAll_101 : decode cX4_useAll 101 = .ok (.invokestatic 170, 3) := by decide +kernel
theorem dX4_useAll_104 : decode cX4_useAll 104 = .ok (.putfield 113, 3) := by decide +kernel
theorem dX4_useAll_107 : decode cX4_useAll 107 = .ok (.iinc 2 1, 3) := by decide +kernel
theorem dX4_useAll_110 : decode cX4_useAll 110 = .ok (.goto (-108), 3) := by decide +kernel
theorem dX4_useAll_113 : decode cX4_useAll 113 = .ok (.return_, 1) := by decide +kernel
theorem dX4_draw_0 : decode cX4_draw 0 = .ok (.aload_n 0, 1) := by decide +kernel
theorem dX4_draw_1 : decode cX4_draw 1 = .ok (.aload_n 0, 1) := by decide +kernel
theorem dX4_draw_2 : decode cX4_draw 2 = .ok (.getfield 62, 3) := by decide +kernel
theorem dX4_draw_5 : decode cX4_draw 5 = .ok (.ldc 173, 2) := by decide +kernel
theorem dX4_draw_7 : decode cX4_draw 7 = .ok (.imul, 1) := by decide +kernel
theorem dX4_draw_8 : decode cX4_draw 8 = .ok (.sipush 12345, 3) := by decide +kernel
theorem dX4_draw_11 : decode cX4_draw 11 = .ok (.iadd, 1) := by decide +kernel
theorem dX4_draw_12 : decode cX4_draw 12 = .ok (.putfield 62, 3) := by decide +kernel
theorem dX4_draw_15 : decode cX4_draw 15 = .ok (.aload_n 0, 1) := by decide +kernel
theorem dX4_draw_16 : decode cX4_draw 16 = .ok (.getfield 62, 3) := by decide +kernel
theorem dX4_draw_19 : decode cX4_draw 19 = .ok (.bipush 8, 2) := by decide +kernel
theorem dX4_draw_21 : decode cX4_draw 21 = .ok (.iushr, 1) := by decide +kernel
theorem dX4_draw_22 : decode cX4_draw 22 = .ok (.ireturn, 1) := by decide +kernel
theorem dX4_steelOfAll_0 : decode cX4_steelOfAll 0 = .ok (.iconst 0, 1) := by decide +kernel
theorem dX4_steelOfAll_1 : decode cX4_steelOfAll 1 = .ok (.istore_n 1, 1) := by decide +kernel
theorem dX4_steelOfAll_2 : decode cX4_steelOfAll 2 = .ok (.iconst 0, 1) := by decide +kernel
theorem dX4_steelOfAll_3 : decode cX4_steelOfAll 3 = .ok (.istore_n 2, 1) := by decide +kernel
theorem dX4_steelOfAll_4 : decode cX4_steelOfAll 4 = .ok (.iload_n 2, 1) := by decide +kernel
theorem dX4_steelOfAll_5 : decode cX4_steelOfAll 5 = .ok (.aload_n 0, 1) := by decide +kernel
theorem dX4_steelOfAll_6 : decode cX4_steelOfAll 6 = .ok (.getfield 17, 3) := by decide +kernel
theorem dX4_steelOfAll_9 : decode cX4_steelOfAll 9 = .ok (.if_icmp .ge 30, 3) := by decide +kernel
theorem dX4_steelOfAll_12 : decode cX4_steelOfAll 12 = .ok (.iload_n 2, 1) := by decide +kernel
theorem dX4_steelOfAll_13 : decode cX4_steelOfAll 13 = .ok (.aload_n 0, 1) := by decide +kernel
theorem dX4_steelOfAll_14 : decode cX4_steelOfAll 14 = .ok (.getfield 11, 3) := by decide +kernel
theorem dX4_steelOfAll_17 : decode cX4_steelOfAll 17 = .ok (.arraylength, 1) := by decide +kernel
theorem dX4_steelOfAll_18 : decode cX4_steelOfAll 18 = .ok (.if_icmp .ge 21, 3) := by decide +kernel
theorem dX4_steelOfAll_21 : decode cX4_steelOfAll 21 = .ok (.iload_n 1, 1) := by decide +kernel
theorem dX4_steelOfAll_22 : decode cX4_steelOfAll 22 = .ok (.aload_n 0, 1) := by decide +kernel
theorem dX4_steelOfAll_23 : decode cX4_steelOfAll 23 = .ok (.getfield 11, 3) := by decide +kernel
theorem dX4_steelOfAll_26 : decode cX4_steelOfAll 26 = .ok (.iload_n 2, 1) := by decide +kernel
theorem dX4_steelOfAll_27 : decode cX4_steelOfAll 27 = .ok (.aaload, 1) := by decide +kernel
theorem dX4_steelOfAll_28 : decode cX4_steelOfAll 28 = .ok (.getfield 116, 3) := by decide +kernel
theorem dX4_steelOfAll_31 : decode cX4_steelOfAll 31 = .ok (.iadd, 1) := by decide +kernel
theorem dX4_steelOfAll_32 : decode cX4_steelOfAll 32 = .ok (.istore_n 1, 1) := by decide +kernel
theorem dX4_steelOfAll_33 : decode cX4_steelOfAll 33 = .ok (.iinc 2 1, 3) := by decide +kernel
theorem dX4_steelOfAll_36 : decode cX4_steelOfAll 36 = .ok (.goto (-32), 3) := by decide +kernel
theorem dX4_steelOfAll_39 : decode cX4_steelOfAll 39 = .ok (.iload_n 1, 1) := by decide +kernel
theorem dX4_steelOfAll_40 : decode cX4_steelOfAll 40 = .ok (.ireturn, 1) := by decide +kernel
theorem dX4_groundOfAll_0 : decode cX4_groundOfAll 0 = .ok (.iconst 0, 1) := by decide +kernel
theorem dX4_groundOfAll_1 : decode cX4_groundOfAll 1 = .ok (.istore_n 1, 1) := by decide +kernel
theorem dX4_groundOfAll_2 : decode cX4_groundOfAll 2 = .ok (.iconst 0, 1) := by decide +kernel
theorem dX4_groundOfAll_3 : decode cX4_groundOfAll 3 = .ok (.istore_n 2, 1) := by decide +kernel
theorem dX4_groundOfAll_4 : decode cX4_groundOfAll 4 = .ok (.iload_n 2, 1) := by decide +kernel
theorem dX4_groundOfAll_5 : decode cX4_groundOfAll 5 = .ok (.aload_n 0, 1) := by decide +kernel
theorem dX4_groundOfAll_6 : decode cX4_groundOfAll 6 = .ok (.getfield 17, 3) := by decide +kernel
theorem dX4_groundOfAll_9 : decode cX4_groundOfAll 9 = .ok (.if_icmp .ge 30, 3) := by decide +kernel
theorem dX4_groundOfAll_12 : decode cX4_groundOfAll 12 = .ok (.iload_n 2, 1) := by decide +kernel
theorem dX4_groundOfAll_13 : decode cX4_groundOfAll 13 = .ok (.aload_n 0, 1) := by decide +kernel
theorem dX4_groundOfAll_14 : decode cX4_groundOfAll 14 = .ok (.getfield 11, 3) := by decide +kernel
theorem dX4_groundOfAll_17 : decode cX4_groundOfAll 17 = .ok (.arraylength, 1) := by decide +kernel
theorem dX4_groundOfAll_18 : decode cX4_groundOfAll 18 = .ok (.if_icmp .ge 21, 3) := by decide +kernel
theorem dX4_groundOfAll_21 : decode cX4_groundOfAll 21 = .ok (.iload_n 1, 1) := by decide +kernel
theorem dX4_groundOfAll_22 : decode cX4_groundOfAll 22 = .ok (.aload_n 0, 1) := by decide +kernel
theorem dX4_groundOfAll_23 : decode cX4_groundOfAll 23 = .ok (.getfield 11, 3) := by decide +kernel
theorem dX4_groundOfAll_26 : decode cX4_groundOfAll 26 = .ok (.iload_n 2, 1) := by decide +kernel
theorem dX4_groundOfAll_27 : decode cX4_groundOfAll 27 = .ok (.aaload, 1) := by decide +kernel
theorem dX4_groundOfAll_28 : decode cX4_groundOfAll 28 = .ok (.getfield 151, 3) := by decide +kernel
theorem dX4_groundOfAll_31 : decode cX4_groundOfAll 31 = .ok (.iadd, 1) := by decide +kernel
theorem dX4_groundOfAll_32 : decode cX4_groundOfAll 32 = .ok (.istore_n 1, 1) := by decide +kernel
theorem dX4_groundOfAll_33 : decode cX4_groundOfAll 33 = .ok (.iinc 2 1, 3) := by decide +kernel
theorem dX4_groundOfAll_36 : decode cX4_groundOfAll 36 = .ok (.goto (-32), 3) := by decide +kernel
theorem dX4_groundOfAll_39 : decode cX4_groundOfAll 39 = .ok (.iload_n 1, 1) := by decide +kernel
theorem dX4_groundOfAll_40 : decode cX4_groundOfAll 40 = .ok (.ireturn, 1) := by decide +kernel
theorem dX5_init_0 : decode cX5_init 0 = .ok (.aload_n 0, 1) := by decide +kernel
theorem dX5_init_1 : decode cX5_init 1 = .ok (.invokespecial 3, 3) := by decide +kernel
theorem dX5_init_4 : decode cX5_init 4 = .ok (.aload_n 0, 1) := by decide +kernel
theorem dX5_init_5 : decode cX5_init 5 = .ok (.bipush 50, 2) := by decide +kernel
theorem dX5_init_7 : decode cX5_init 7 = .ok (.newarray .int, 2) := by decide +kernel
theorem dX5_init_9 : decode cX5_init 9 = .ok (.putfield 9, 3) := by decide +kernel
theorem dX5_init_12 : decode cX5_init 12 = .ok (.aload_n 0, 1) := by decide +kernel
theorem dX5_init_13 : decode cX5_init 13 = .ok (.iconst 0, 1) := by decide +kernel
theorem dX5_init_14 : decode cX5_init 14 = .ok (.putfield 15, 3) := by decide +kernel
theorem dX5_init_17 : decode cX5_init 17 = .ok (.aload_n 0, 1) := by decide +kernel
theorem dX5_init_18 : decode cX5_init 18 = .ok (.bipush 50, 2) := by decide +kernel
theorem dX5_init_20 : decode cX5_init 20 = .ok (.newarray .int, 2) := by decide +kernel
theorem dX5_init_22 : decode cX5_init 22 = .ok (.putfield 19, 3) := by decide +kernel
theorem dX5_init_25 : decode cX5_init 25 = .ok (.return_, 1) := by decide +kernel
theorem dX5_isMissing_0 : decode cX5_isMissing 0 = .ok (.aload_n 0, 1) := by decide +kernel
theorem dX5_isMissing_1 : decode cX5_isMissing 1 = .ok (.getfield 15, 3) := by decide +kernel
theorem dX5_isMissing_4 : decode cX5_isMissing 4 = .ok (.ifCond .ne 7, 3) := by decide +kernel
theorem dX5_isMissing_7 : decode cX5_isMissing 7 = .ok (.iconst 1, 1) := by decide +kernel
theorem dX5_isMissing_8 : decode cX5_isMissing 8 = .ok (.goto 4, 3) := by decide +kernel
theorem dX5_isMissing_11 : decode cX5_isMissing 11 = .ok (.iconst 0, 1) := by decide +kernel
theorem dX5_isMissing_12 : decode cX5_isMissing 12 = .ok (.ireturn, 1) := by decide +kernel
theorem dX5_clear_0 : decode cX5_clear 0 = .ok (.aload_n 0, 1) := by decide +kernel
theorem dX5_clear_1 : decode cX5_clear 1 = .ok (.iconst 0, 1) := by decide +kernel
theorem dX5_clear_2 : decode cX5_clear 2 = .ok (.putfield 15, 3) := by decide +kernel
theorem dX5_clear_5 : decode cX5_clear 5 = .ok (.return_, 1) := by decide +kernel
theorem dX5_copyFrom_0 : decode cX5_copyFrom 0 = .ok (.aload_n 0, 1) := by decide +kernel
theorem dX5_copyFrom_1 : decode cX5_copyFrom 1 = .ok (.aload_n 1, 1) := by decide +kernel
theorem dX5_copyFrom_2 : decode cX5_copyFrom 2 = .ok (.getfield 15, 3) := by decide +kernel
theorem dX5_copyFrom_5 : decode cX5_copyFrom 5 = .ok (.putfield 15, 3) := by decide +kernel
theorem dX5_copyFrom_8 : decode cX5_copyFrom 8 = .ok (.aload_n 1, 1) := by decide +kernel
theorem dX5_copyFrom_9 : decode cX5_copyFrom 9 = .ok (.getfield 9, 3) := by decide +kernel
theorem dX5_copyFrom_12 : decode cX5_copyFrom 12 = .ok (.iconst 0, 1) := by decide +kernel
theorem dX5_copyFrom_13 : decode cX5_copyFrom 13 = .ok (.aload_n 0, 1) := by decide +kernel
theorem dX5_copyFrom_14 : decode cX5_copyFrom 14 = .ok (.getfield 9, 3) := by decide +kernel
theorem dX5_copyFrom_17 : decode cX5_copyFrom 17 = .ok (.iconst 0, 1) := by decide +kernel
theorem dX5_copyFrom_18 : decode cX5_copyFrom 18 = .ok (.bipush 50, 2) := by decide +kernel
theorem dX5_copyFrom_20 : decode cX5_copyFrom 20 = .ok (.invokestatic 22, 3) := by decide +kernel
theorem dX5_copyFrom_23 : decode cX5_copyFrom 23 = .ok (.return_, 1) := by decide +kernel
theorem dX5_add_0 : decode cX5_add 0 = .ok (.aload_n 0, 1) := by decide +kernel
theorem dX5_add_1 : decode cX5_add 1 = .ok (.getfield 15, 3) := by decide +kernel
theorem dX5_add_4 : decode cX5_add 4 = .ok (.aload_n 0, 1) := by decide +kernel
theorem dX5_add_5 : decode cX5_add 5 = .ok (.getfield 9, 3) := by decide +kernel
theorem dX5_add_8 : decode cX5_add 8 = .ok (.arraylength, 1) := by decide +kernel
theorem dX5_add_9 : decode cX5_add 9 = .ok (.if_icmp .lt 4, 3) := by decide +kernel
theorem dX5_add_12 : decode cX5_add 12 = .ok (.return_, 1) := by decide +kernel
theorem dX5_add_13 : decode cX5_add 13 = .ok (.aload_n 0, 1) := by decide +kernel
theorem dX5_add_14 : decode cX5_add 14 = .ok (.getfield 9, 3) := by decide +kernel
theorem dX5_add_17 : decode cX5_add 17 = .ok (.aload_n 0, 1) := by decide +kernel
theorem dX5_add_18 : decode cX5_add 18 = .ok (.getfield 15, 3) := by decide +kernel
theorem dX5_add_21 : decode cX5_add 21 = .ok (.iload_n 1, 1) := by decide +kernel
theorem dX5_add_22 : decode cX5_add 22 = .ok (.iastore, 1) := by decide +kernel
theorem dX5_add_23 : decode cX5_add 23 = .ok (.aload_n 0, 1) := by decide +kernel
theorem dX5_add_24 : decode cX5_add 24 = .ok (.dup, 1) := by decide +kernel
theorem dX5_add_25 : decode cX5_add 25 = .ok (.getfield 15, 3) := by decide +kernel
theorem dX5_add_28 : decode cX5_add 28 = .ok (.iconst 1, 1) := by decide +kernel
theorem dX5_add_29 : decode cX5_add 29 = .ok (.iadd, 1) := by decide +kernel
theorem dX5_add_30 : decode cX5_add 30 = .ok (.putfield 15, 3) := by decide +kernel
theorem dX5_add_33 : decode cX5_add 33 = .ok (.return_, 1) := by decide +kernel
theorem dX5_addDigit_0 : decode cX5_addDigit 0 = .ok (.aload_n 0, 1) := by decide +kernel
theorem dX5_addDigit_1 : decode cX5_addDigit 1 = .ok (.getfield 15, 3) := by decide +kernel
theorem dX5_addDigit_4 : decode cX5_addDigit 4 = .ok (.iconst 1, 1) := by decide +kernel
theorem dX5_addDigit_5 : decode cX5_addDigit 5 = .ok (.aload_n 0, 1) := by decide +kernel
theorem dX5_addDigit_6 : decode cX5_addDigit 6 = .ok (.getfield 9, 3) := by decide +kernel
theorem dX5_addDigit_9 : decode cX5_addDigit 9 = .ok (.arraylength, 1) := by decide +kernel
theorem dX5_addDigit_10 : decode cX5_addDigit 10 = .ok (.invokestatic 28, 3) := by decide +kernel
theorem dX5_addDigit_13 : decode cX5_addDigit 13 = .ok (.ifCond .ne 4, 3) := by decide +kernel
theorem dX5_addDigit_16 : decode cX5_addDigit 16 = .ok (.return_, 1) := by decide +kernel
theorem dX5_addDigit_17 : decode cX5_addDigit 17 = .ok (.aload_n 0, 1) := by decide +kernel
theorem dX5_addDigit_18 : decode cX5_addDigit 18 = .ok (.getfield 9, 3) := by decide +kernel
theorem dX5_addDigit_21 : decode cX5_addDigit 21 = .ok (.aload_n 0, 1) := by decide +kernel
theorem dX5_addDigit_22 : decode cX5_addDigit 22 = .ok (.getfield 15, 3) := by decide +kernel
theorem dX5_addDigit_25 : decode cX5_addDigit 25 = .ok (.iconst 1, 1) := by decide +kernel
theorem dX5_addDigit_26 : decode cX5_addDigit 26 = .ok (.isub, 1) := by decide +kernel
theorem dX5_addDigit_27 : decode cX5_addDigit 27 = .ok (.aload_n 0, 1) := by decide +kernel
theorem dX5_addDigit_28 : decode cX5_addDigit 28 = .ok (.getfield 9, 3) := by decide +kernel
theorem dX5_addDigit_31 : decode cX5_addDigit 31 = .ok (.aload_n 0, 1) := by decide +kernel
theorem dX5_addDigit_32 : decode cX5_addDigit 32 = .ok (.getfield 15, 3) := by decide +kernel
theorem dX5_addDigit_35 : decode cX5_addDigit 35 = .ok (.iconst 1, 1) := by decide +kernel
theorem dX5_addDigit_36 : decode cX5_addDigit 36 = .ok (.isub, 1) := by decide +kernel
theorem dX5_addDigit_37 : decode cX5_addDigit 37 = .ok (.iaload, 1) := by decide +kernel
theorem dX5_addDigit_38 : decode cX5_addDigit 38 = .ok (.bipush 10, 2) := by decide +kernel
theorem dX5_addDigit_40 : decode cX5_addDigit 40 = .ok (.imul, 1) := by decide +kernel
theorem dX5_addDigit_41 : decode cX5_addDigit 41 = .ok (.iload_n 1, 1) := by decide +kernel
theorem dX5_addDigit_42 : decode cX5_addDigit 42 = .ok (.iadd, 1) := by decide +kernel
theorem dX5_addDigit_43 : decode cX5_addDigit 43 = .ok (.iastore, 1) := by decide +kernel
theorem dX5_addDigit_44 : decode cX5_addDigit 44 = .ok (.return_, 1) := by decide +kernel
theorem dX5_workOut_0 : decode cX5_workOut 0 = .ok (.iconst (-1), 1) := by decide +kernel
theorem dX5_workOut_1 : decode cX5_workOut 1 = .ok (.istore 5, 2) := by decide +kernel
theorem dX5_workOut_3 : decode cX5_workOut 3 = .ok (.iconst 0, 1) := by decide +kernel
theorem dX5_workOut_4 : decode cX5_workOut 4 = .ok (.istore 6, 2) := by decide +kernel
theorem dX5_workOut_6 : decode cX5_workOut 6 = .ok (.iload 6, 2) := by decide +kernel
theorem dX5_workOut_8 : decode cX5_workOut 8 = .ok (.aload_n 0, 1) := by decide +kernel
theorem dX5_workOut_9 : decode cX5_workOut 9 = .ok (.getfield 15, 3) := by decide +kernel
theorem dX5_workOut_12 : decode cX5_workOut 12 = .ok (.if_icmp .ge 185, 3) := by decide +kernel
theorem dX5_workOut_15 : decode cX5_workOut 15 = .ok (.iload 6, 2) := by decide +kernel
theorem dX5_workOut_17 : decode cX5_workOut 17 = .ok (.aload_n 0, 1) := by decide +kernel
theorem dX5_workOut_18 : decode cX5_workOut 18 = .ok (.getfield 9, 3) := by decide +kernel
theorem dX5_workOut_21 : decode cX5_workOut 21 = .ok (.arraylength, 1) := by decide +kernel
theorem dX5_workOut_22 : decode cX5_workOut 22 = .ok (.if_icmp .ge 175, 3) := by decide +kernel
theorem dX5_workOut_25 : decode cX5_workOut 25 = .ok (.aload_n 0, 1) := by decide +kernel
theorem dX5_workOut_26 : decode cX5_workOut 26 = .ok (.getfield 9, 3) := by decide +kernel
theorem dX5_workOut_29 : decode cX5_workOut 29 = .ok (.iload 6, 2) := by decide +kernel
theorem dX5_workOut_31 : decode cX5_workOut 31 = .ok (.iaload, 1) := by decide +kernel
theorem dX5_workOut_32 : decode cX5_workOut 32 = .ok (.istore 7, 2) := by decide +kernel
theorem dX5_workOut_34 : decode cX5_workOut 34 = .ok (.iload 7, 2) := by decide +kernel
theorem dX5_workOut_36 : decode cX5_workOut 36 = .ok (.ifCond .lt 7, 3) := by decide +kernel
theorem dX5_workOut_39 : decode cX5_workOut 39 = .ok (.iconst 0, 1) := by decide +kernel
theorem dX5_workOut_40 : decode cX5_workOut 40 = .ok (.goto 15, 3) := by decide +kernel
theorem dX5_workOut_43 : decode cX5_workOut 43 = .ok (.iload 7, 2) := by decide +kernel
theorem dX5_workOut_45 : decode cX5_workOut 45 = .ok (.bipush (-33), 2) := by decide +kernel
theorem dX5_workOut_47 : decode cX5_workOut 47 = .ok (.if_icmp .ne 7, 3) := by decide +kernel
theorem dX5_workOut_50 : decode cX5_workOut 50 = .ok (.iconst 1, 1) := by decide +kernel
theorem dX5_workOut_51 : decode cX5_workOut 51 = .ok (.goto 4, 3) := by decide +kernel
theorem dX5_workOut_54 : decode cX5_workOut 54 = .ok (.iconst 2, 1) := by decide +kernel
theorem dX5_workOut_55 : decode cX5_workOut 55 = .ok (.istore 8, 2) := by decide +kernel
theorem dX5_workOut_57 : decode cX5_workOut 57 = .ok (.iload 5, 2) := by decide +kernel
theorem dX5_workOut_59 : decode cX5_workOut 59 = .ok (.iconst 1, 1) := by decide +kernel
theorem dX5_workOut_60 : decode cX5_workOut 60 = .ok (.iadd, 1) := by decide +kernel
theorem dX5_workOut_61 : decode cX5_workOut 61 = .ok (.iload 8, 2) := by decide +kernel
theorem dX5_workOut_63 : decode cX5_workOut 63 = .ok (.isub, 1) := by decide +kernel
theorem dX5_workOut_64 : decode cX5_workOut 64 = .ok (.istore 9, 2) := by decide +kernel
theorem dX5_workOut_66 : decode cX5_workOut 66 = .ok (.iload 9, 2) := by decide +kernel
theorem dX5_workOut_68 : decode cX5_workOut 68 = .ok (.ifCond .lt 15, 3) := by decide +kernel
theorem dX5_workOut_71 : decode cX5_workOut 71 = .ok (.iload 9, 2) := by decide +kernel
theorem dX5_workOut_73 : decode cX5_workOut 73 = .ok (.iconst 1, 1) := by decide +kernel
theorem dX5_workOut_74 : decode cX5_workOut 74 = .ok (.iadd, 1) := by decide +kernel
theorem dX5_workOut_75 : decode cX5_workOut 75 = .ok (.aload_n 0, 1) := by decide +kernel
theorem dX5_workOut_76 : decode cX5_workOut 76 = .ok (.getfield 19, 3) := by decide +kernel
theorem dX5_workOut_79 : decode cX5_workOut 79 = .ok (.arraylength, 1) := by decide +kernel
theorem dX5_workOut_80 : decode cX5_workOut 80 = .ok (.if_icmp .lt 5, 3) := by decide +kernel
theorem dX5_workOut_83 : decode cX5_workOut 83 = .ok (.iconst 0, 1) := by decide +kernel
theorem dX5_workOut_84 : decode cX5_workOut 84 = .ok (.ireturn, 1) := by decide +kernel
theorem dX5_workOut_85 : decode cX5_workOut 85 = .ok (.iload 8, 2) := by decide +kernel
theorem dX5_workOut_87 : decode cX5_workOut 87 = .ok (.ifCond .ne 40, 3) := by decide +kernel
theorem dX5_workOut_90 : decode cX5_workOut 90 = .ok (.aload_n 0, 1) := by decide +kernel
theorem dX5_workOut_91 : decode cX5_workOut 91 = .ok (.getfield 19, 3) := by decide +kernel
theorem dX5_workOut_94 : decode cX5_workOut 94 = .ok (.iload 9, 2) := by decide +kernel
theorem dX5_workOut_96 : decode cX5_workOut 96 = .ok (.iload 7, 2) := by decide +kernel
theorem dX5_workOut_98 : decode cX5_workOut 98 = .ok (.sipush 10000, 3) := by decide +kernel
theorem dX5_workOut_101 : decode cX5_workOut 101 = .ok (.if_icmp .ge 8, 3) := by decide +kernel
theorem dX5_workOut_104 : decode cX5_workOut 104 = .ok (.iload 7, 2) := by decide +kernel
theorem dX5_workOut_106 : decode cX5_workOut 106 = .ok (.goto 17, 3) := by decide +kernel
theorem dX5_workOut_109 : decode cX5_workOut 109 = .ok (.iload 7, 2) := by decide +kernel
theorem dX5_workOut_111 : decode cX5_workOut 111 = .ok (.sipush 10000, 3) := by decide +kernel
theorem dX5_workOut_114 : decode cX5_workOut 114 = .ok (.isub, 1) := by decide +kernel
theorem dX5_workOut_115 : decode cX5_workOut 115 = .ok (.iload_n 1, 1) := by decide +kernel
theorem dX5_workOut_116 : decode cX5_workOut 116 = .ok (.iload_n 2, 1) := by decide +kernel
theorem dX5_workOut_117 : decode cX5_workOut 117 = .ok (.iload_n 3, 1) := by decide +kernel
theorem dX5_workOut_118 : decode cX5_workOut 118 = .ok (.iload 4, 2) := by decide +kernel
theorem dX5_workOut_120 : decode cX5_workOut 120 = .ok (.invokestatic 32, 3) := by decide +kernel
theorem dX5_workOut_123 : decode cX5_workOut 123 = .ok (.iastore, 1) := by decide +kernel
theorem dX5_workOut_124 : decode cX5_workOut 124 = .ok (.goto 63, 3) := by decide +kernel
theorem dX5_workOut_127 : decode cX5_workOut 127 = .ok (.iload 8, 2) := by decide +kernel
theorem dX5_workOut_129 : decode cX5_workOut 129 = .ok (.iconst 1, 1) := by decide +kernel
theorem dX5_workOut_130 : decode cX5_workOut 130 = .ok (.if_icmp .ne 28, 3) := by decide +kernel
theorem dX5_workOut_133 : decode cX5_workOut 133 = .ok (.aload_n 0, 1) := by decide +kernel
theorem dX5_workOut_134 : decode cX5_workOut 134 = .ok (.getfield 19, 3) := by decide +kernel
theorem dX5_workOut_137 : decode cX5_workOut 137 = .ok (.iload 9, 2) := by decide +kernel
theorem dX5_workOut_139 : decode cX5_workOut 139 = .ok (.aload_n 0, 1) := by decide +kernel
theorem dX5_workOut_140 : decode cX5_workOut 140 = .ok (.getfield 19, 3) := by decide +kernel
theorem dX5_workOut_143 : decode cX5_workOut 143 = .ok (.iload 9, 2) := by decide +kernel
theorem dX5_workOut_145 : decode cX5_workOut 145 = .ok (.iaload, 1) := by decide +kernel
theorem dX5_workOut_146 : decode cX5_workOut 146 = .ok (.ifCond .ne 7, 3) := by decide +kernel
theorem dX5_workOut_149 : decode cX5_workOut 149 = .ok (.iconst 1, 1) := by decide +kernel
theorem dX5_workOut_150 : decode cX5_workOut 150 = .ok (.goto 4, 3) := by decide +kernel
theorem dX5_workOut_153 : decode cX5_workOut 153 = .ok (.iconst 0, 1) := by decide +kernel
theorem dX5_workOut_154 : decode cX5_workOut 154 = .ok (.iastore, 1) := by decide +kernel
theorem dX5_workOut_155 : decode cX5_workOut 155 = .ok (.goto 32, 3) := by decide +kernel
theorem dX5_workOut_158 : decode cX5_workOut 158 = .ok (.aload_n 0, 1) := by decide +kernel
theorem dX5_workOut_159 : decode cX5_workOut 159 = .ok (.getfield 19, 3) := by decide +kernel
theorem dX5_workOut_162 : decode cX5_workOut 162 = .ok (.iload 9, 2) := by decide +kernel
theorem dX5_workOut_164 : decode cX5_workOut 164 = .ok (.iload 7, 2) := by decide +kernel
theorem dX5_workOut_166 : decode cX5_workOut 166 = .ok (.ineg, 1) := by decide +kernel
theorem dX5_workOut_167 : decode cX5_workOut 167 = .ok (.aload_n 0, 1) := by decide +kernel
theorem dX5_workOut_168 : decode cX5_workOut 168 = .ok (.getfield 19, 3) := by decide +kernel
theorem dX5_workOut_171 : decode cX5_workOut 171 = .ok (.iload 9, 2) := by decide +kernel
theorem dX5_workOut_173 : decode cX5_workOut 173 = .ok (.iaload, 1) := by decide +kernel
theorem dX5_workOut_174 : decode cX5_workOut 174 = .ok (.aload_n 0, 1) := by decide +kernel
theorem dX5_workOut_175 : decode cX5_workOut 175 = .ok (.getfield 19, 3) := by decide +kernel
theorem dX5_workOut_178 : decode cX5_workOut 178 = .ok (.iload 9, 2) := by decide +kernel
theorem dX5_workOut_180 : decode cX5_workOut 180 = .ok (.iconst 1, 1) := by decide +kernel
theorem dX5_workOut_181 : decode cX5_workOut 181 = .ok (.iadd, 1) := by decide +kernel
theorem dX5_workOut_182 : decode cX5_workOut 182 = .ok (.iaload, 1) := by decide +kernel
theorem dX5_workOut_183 : decode cX5_workOut 183 = .ok (.invokestatic 36, 3) := by decide +kernel
theorem dX5_workOut_186 : decode cX5_workOut 186 = .ok (.iastore, 1) := by decide +kernel
theorem dX5_workOut_187 : decode cX5_workOut 187 = .ok (.iload 9, 2) := by decide +kernel
theorem dX5_workOut_189 : decode cX5_workOut 189 = .ok (.istore 5, 2) := by decide +kernel
theorem dX5_workOut_191 : decode cX5_workOut 191 = .ok (.iinc 6 1, 3) := by decide +kernel
theorem dX5_workOut_194 : decode cX5_workOut 194 = .ok (.goto (-188), 3) := by decide +kernel
theorem dX5_workOut_197 : decode cX5_workOut 197 = .ok (.iload 5, 2) := by decide +kernel
theorem dX5_workOut_199 : decode cX5_workOut 199 = .ok (.ifCond .ne 12, 3) := by decide +kernel
theorem dX5_workOut_202 : decode cX5_workOut 202 = .ok (.aload_n 0, 1) := by decide +kernel
theorem dX5_workOut_203 : decode cX5_workOut 203 = .ok (.getfield 19, 3) := by decide +kernel
theorem dX5_workOut_206 : decode cX5_workOut 206 = .ok (.iconst 0, 1) := by decide +kernel
theorem dX5_workOut_207 : decode cX5_workOut 207 = .ok (.iaload, 1) := by decide +kernel
theorem dX5_workOut_208 : decode cX5_workOut 208 = .ok (.goto 4, 3) := by decide +kernel
theorem dX5_workOut_211 : decode cX5_workOut 211 = .ok (.iconst 0, 1) := by decide +kernel
theorem dX5_workOut_212 : decode cX5_workOut 212 = .ok (.ireturn, 1) := by decide +kernel
theorem dX5_named_0 : decode cX5_named 0 = .ok (.iload_n 0, 1) := by decide +kernel
theorem dX5_named_1 : decode cX5_named 1 = .ok (.tableswitch 33 0 2 #[27, 29, 31], 27) := by decide +kernel
theorem dX5_named_28 : decode cX5_named 28 = .ok (.iload_n 1, 1) := by decide +kernel
theorem dX5_named_29 : decode cX5_named 29 = .ok (.ireturn, 1) := by decide +kernel
theorem dX5_named_30 : decode cX5_named 30 = .ok (.iload_n 2, 1) := by decide +kernel
theorem dX5_named_31 : decode cX5_named 31 = .ok (.ireturn, 1) := by decide +kernel
theorem dX5_named_32 : decode cX5_named 32 = .ok (.iload_n 3, 1) := by decide +kernel
theorem dX5_named_33 : decode cX5_named 33 = .ok (.ireturn, 1) := by decide +kernel
theorem dX5_named_34 : decode cX5_named 34 = .ok (.iload 4, 2) := by decide +kernel
theorem dX5_named_36 : decode cX5_named 36 = .ok (.ireturn, 1) := by decide +kernel
theorem dX5_combined_0 : decode cX5_combined 0 = .ok (.iload_n 0, 1) := by decide +kernel
theorem dX5_combined_1 : decode cX5_combined 1 = .ok (.lookupswitch 168 #[(38, 97), (42, 152), (43, 144), (45, 148), (47, 156), (60, 111), (61, 122), (62, 133), (124, 83)], 83) := by decide +kernel
theorem dX5_combined_84 : decode cX5_combined 84 = .ok (.iload_n 1, 1) := by decide +kernel
theorem dX5_combined_85 : decode cX5_combined 85 = .ok (.ifCond .ne 7, 3) := by decide +kernel
theorem dX5_combined_88 : decode cX5_combined 88 = .ok (.iload_n 2, 1) := by decide +kernel
theorem dX5_combined_89 : decode cX5_combined 89 = .ok (.ifCond .eq 7, 3) := by decide +kernel
theorem dX5_combined_92 : decode cX5_combined 92 = .ok (.iconst 1, 1) := by decide +kernel
theorem dX5_combined_93 : decode cX5_combined 93 = .ok (.goto 4, 3) := by decide +kernel
theorem dX5_combined_96 : decode cX5_combined 96 = .ok (.iconst 0, 1) := by decide +kernel
theorem dX5_combined_97 : decode cX5_combined 97 = .ok (.ireturn, 1) := by decide +kernel
theorem dX5_combined_98 : decode cX5_combined 98 = .ok (.iload_n 1, 1) := by decide +kernel
theorem dX5_combined_99 : decode cX5_combined 99 = .ok (.ifCond .eq 11, 3) := by decide +kernel
theorem dX5_combined_102 : decode cX5_combined 102 = .ok (.iload_n 2, 1) := by decide +kernel
theorem dX5_combined_103 : decode cX5_combined 103 = .ok (.ifCond .eq 7, 3) := by decide +kernel
theorem dX5_combined_106 : decode cX5_combined 106 = .ok (.iconst 1, 1) := by decide +kernel
theorem dX5_combined_107 : decode cX5_combined 107 = .ok (.goto 4, 3) := by decide +kernel
theorem dX5_combined_110 : decode cX5_combined 110 = .ok (.iconst 0, 1) := by decide +kernel
theorem dX5_combined_111 : decode cX5_combined 111 = .ok (.ireturn, 1) := by decide +kernel
theorem dX5_combined_112 : decode cX5_combined 112 = .ok (.iload_n 1, 1) := by decide +kernel
theorem dX5_combined_113 : decode cX5_combined 113 = .ok (.iload_n 2, 1) := by decide +kernel
theorem dX5_combined_114 : decode cX5_combined 114 = .ok (.if_icmp .ge 7, 3) := by decide +kernel
theorem dX5_combined_117 : decode cX5_combined 117 = .ok (.iconst 1, 1) := by decide +kernel
theorem dX5_combined_118 : decode cX5_combined 118 = .ok (.goto 4, 3) := by decide +kernel
theorem dX5_combined_121 : decode cX5_combined 121 = .ok (.iconst 0, 1) := by decide +kernel
theorem dX5_combined_122 : decode cX5_combined 122 = .ok (.ireturn, 1) := by decide +kernel
theorem dX5_combined_123 : decode cX5_combined 123 = .ok (.iload_n 1, 1) := by decide +kernel
theorem dX5_combined_124 : decode cX5_combined 124 = .ok (.iload_n 2, 1) := by decide +kernel
theorem dX5_combined_125 : decode cX5_combined 125 = .ok (.if_icmp .ne 7, 3) := by decide +kernel
theorem dX5_combined_128 : decode cX5_combined 128 = .ok (.iconst 1, 1) := by decide +kernel
theorem dX5_combined_129 : decode cX5_combined 129 = .ok (.goto 4, 3) := by decide +kernel
theorem dX5_combined_132 : decode cX5_combined 132 = .ok (.iconst 0, 1) := by decide +kernel
theorem dX5_combined_133 : decode cX5_combined 133 = .ok (.ireturn, 1) := by decide +kernel
theorem dX5_combined_134 : decode cX5_combined 134 = .ok (.iload_n 1, 1) := by decide +kernel
theorem dX5_combined_135 : decode cX5_combined 135 = .ok (.iload_n 2, 1) := by decide +kernel
theorem dX5_combined_136 : decode cX5_combined 136 = .ok (.if_icmp .le 7, 3) := by decide +kernel
theorem dX5_combined_139 : decode cX5_combined 139 = .ok (.iconst 1, 1) := by decide +kernel
theorem dX5_combined_140 : decode cX5_combined 140 = .ok (.goto 4, 3) := by decide +kernel
theorem dX5_combined_143 : decode cX5_combined 143 = .ok (.iconst 0, 1) := by decide +kernel
theorem dX5_combined_144 : decode cX5_combined 144 = .ok (.ireturn, 1) := by decide +kernel
theorem dX5_combined_145 : decode cX5_combined 145 = .ok (.iload_n 1, 1) := by decide +kernel
theorem dX5_combined_146 : decode cX5_combined 146 = .ok (.iload_n 2, 1) := by decide +kernel
theorem dX5_combined_147 : decode cX5_combined 147 = .ok (.iadd, 1) := by decide +kernel
theorem dX5_combined_148 : decode cX5_combined 148 = .ok (.ireturn, 1) := by decide +kernel
theorem dX5_combined_149 : decode cX5_combined 149 = .ok (.iload_n 1, 1) := by decide +kernel
theorem dX5_combined_150 : decode cX5_combined 150 = .ok (.iload_n 2, 1) := by decide +kernel
theorem dX5_combined_151 : decode cX5_combined 151 = .ok (.isub, 1) := by decide +kernel
theorem dX5_combined_152 : decode cX5_combined 152 = .ok (.ireturn, 1) := by decide +kernel
theorem dX5_combined_153 : decode cX5_combined 153 = .ok (.iload_n 1, 1) := by decide +kernel
theorem dX5_combined_154 : decode cX5_combined 154 = .ok (.iload_n 2, 1) := by decide +kernel
theorem dX5_combined_155 : decode cX5_combined 155 = .ok (.imul, 1) := by decide +kernel
theorem dX5_combined_156 : decode cX5_combined 156 = .ok (.ireturn, 1) := by decide +kernel
theorem dX5_combined_157 : decode cX5_combined 157 = .ok (.iload_n 2, 1) := by decide +kernel
theorem dX5_combined_158 : decode cX5_combined 158 = .ok (.ifCond .ne 7, 3) := by decide +kernel
theorem dX5_combined_161 : decode cX5_combined 161 = .ok (.iconst 0, 1) := by decide +kernel
theorem dX5_combined_162 : decode cX5_combined 162 = .ok (.goto 6, 3) := by decide +kernel
theorem dX5_combined_165 : decode cX5_combined 165 = .ok (.iload_n 1, 1) := by decide +kernel
theorem dX5_combined_166 : decode cX5_combined 166 = .ok (.iload_n 2, 1) := by decide +kernel
theorem dX5_combined_167 : decode cX5_combined 167 = .ok (.idiv, 1) := by decide +kernel
theorem dX5_combined_168 : decode cX5_combined 168 = .ok (.ireturn, 1) := by decide +kernel
theorem dX5_combined_169 : decode cX5_combined 169 = .ok (.iload_n 2, 1) := by decide +kernel
theorem dX5_combined_170 : decode cX5_combined 170 = .ok (.ifCond .ne 7, 3) := by decide +kernel
theorem dX5_combined_173 : decode cX5_combined 173 = .ok (.iconst 0, 1) := by decide +kernel
theorem dX5_combined_174 : decode cX5_combined 174 = .ok (.goto 6, 3) := by decide +kernel
theorem dX5_combined_177 : decode cX5_combined 177 = .ok (.iload_n 1, 1) := by decide +kernel
theorem dX5_combined_178 : decode cX5_combined 178 = .ok (.iload_n 2, 1) := by decide +kernel
theorem dX5_combined_179 : decode cX5_combined 179 = .ok (.irem, 1) := by decide +kernel
theorem dX5_combined_180 : decode cX5_combined 180 = .ok (.ireturn, 1) := by decide +kernel
theorem dX6_init_0 : decode cX6_init 0 = .ok (.aload_n 0, 1) := by decide +kernel
theorem dX6_init_1 : decode cX6_init 1 = .ok (.invokespecial 3, 3) := by decide +kernel
theorem dX6_init_4 : decode cX6_init 4 = .ok (.aload_n 0, 1) := by decide +kernel
theorem dX6_init_5 : decode cX6_init 5 = .ok (.bipush 40, 2) := by decide +kernel
theorem dX6_init_7 : decode cX6_init 7 = .ok (.newarray .int, 2) := by decide +kernel
theorem dX6_init_9 : decode cX6_init 9 = .ok (.putfield 9, 3) := by decide +kernel
theorem dX6_init_12 : decode cX6_init 12 = .ok (.aload_n 0, 1) := by decide +kernel
theorem dX6_init_13 : decode cX6_init 13 = .ok (.iconst 0, 1) := by decide +kernel
theorem dX6_init_14 : decode cX6_init 14 = .ok (.putfield 15, 3) := by decide +kernel
theorem dX6_init_17 : decode cX6_init 17 = .ok (.aload_n 0, 1) := by decide +kernel
theorem dX6_init_18 : decode cX6_init 18 = .ok (.iconst 0, 1) := by decide +kernel
theorem dX6_init_19 : decode cX6_init 19 = .ok (.putfield 19, 3) := by decide +kernel
theorem dX6_init_22 : decode cX6_init 22 = .ok (.aload_n 0, 1) := by decide +kernel
theorem dX6_init_23 : decode cX6_init 23 = .ok (.iconst 0, 1) := by decide +kernel
theorem dX6_init_24 : decode cX6_init 24 = .ok (.putfield 22, 3) := by decide +kernel
theorem dX6_init_27 : decode cX6_init 27 = .ok (.aload_n 0, 1) := by decide +kernel
theorem dX6_init_28 : decode cX6_init 28 = .ok (.iconst 0, 1) := by decide +kernel
theorem dX6_init_29 : decode cX6_init 29 = .ok (.putfield 25, 3) := by decide +kernel
theorem dX6_init_32 : decode cX6_init 32 = .ok (.return_, 1) := by decide +kernel
theorem dX6_speak_0 : decode cX6_speak 0 = .ok (.aload_n 0, 1) := by decide +kernel
theorem dX6_speak_1 : decode cX6_speak 1 = .ok (.iconst 0, 1) := by decide +kernel
theorem dX6_speak_2 : decode cX6_speak 2 = .ok (.putfield 15, 3) := by decide +kernel
theorem dX6_speak_5 : decode cX6_speak 5 = .ok (.aload_n 0, 1) := by decide +kernel
theorem dX6_speak_6 : decode cX6_speak 6 = .ok (.aload_n 2, 1) := by decide +kernel
theorem dX6_speak_7 : decode cX6_speak 7 = .ok (.getfield 28, 3) := by decide +kernel
theorem dX6_speak_10 : decode cX6_speak 10 = .ok (.putfield 19, 3) := by decide +kernel
theorem dX6_speak_13 : decode cX6_speak 13 = .ok (.aload_n 0, 1) := by decide +kernel
theorem dX6_speak_14 : decode cX6_speak 14 = .ok (.aload_n 2, 1) := by decide +kernel
theorem dX6_speak_15 : decode cX6_speak 15 = .ok (.getfield 31, 3) := by decide +kernel
theorem dX6_speak_18 : decode cX6_speak 18 = .ok (.putfield 22, 3) := by decide +kernel
theorem dX6_speak_21 : decode cX6_speak 21 = .ok (.aload_n 0, 1) := by decide +kernel
theorem dX6_speak_22 : decode cX6_speak 22 = .ok (.iload_n 1, 1) := by decide +kernel
theorem dX6_speak_23 : decode cX6_speak 23 = .ok (.putfield 25, 3) := by decide +kernel
theorem dX6_speak_26 : decode cX6_speak 26 = .ok (.aload_n 0, 1) := by decide +kernel
theorem dX6_speak_27 : decode cX6_speak 27 = .ok (.aload_n 0, 1) := by decide +kernel
theorem dX6_speak_28 : decode cX6_speak 28 = .ok (.iload_n 3, 1) := by decide +kernel
theorem dX6_speak_29 : decode cX6_speak 29 = .ok (.invokevirtual 32, 3) := by decide +kernel
theorem dX6_speak_32 : decode cX6_speak 32 = .ok (.iload 4, 2) := by decide +kernel
theorem dX6_speak_34 : decode cX6_speak 34 = .ok (.iconst 0, 1) := by decide +kernel
theorem dX6_speak_35 : decode cX6_speak 35 = .ok (.invokevirtual 36, 3) := by decide +kernel
theorem dX6_speak_38 : decode cX6_speak 38 = .ok (.ireturn, 1) := by decide +kernel
theorem dX6_bodyOf_0 : decode cX6_bodyOf 0 = .ok (.aload_n 0, 1) := by decide +kernel
theorem dX6_bodyOf_1 : decode cX6_bodyOf 1 = .ok (.getfield 19, 3) := by decide +kernel
theorem dX6_bodyOf_4 : decode cX6_bodyOf 4 = .ok (.iconst 4, 1) := by decide +kernel
theorem dX6_bodyOf_5 : decode cX6_bodyOf 5 = .ok (.imul, 1) := by decide +kernel
theorem dX6_bodyOf_6 : decode cX6_bodyOf 6 = .ok (.iload_n 1, 1) := by decide +kernel
theorem dX6_bodyOf_7 : decode cX6_bodyOf 7 = .ok (.iadd, 1) := by decide +kernel
theorem dX6_bodyOf_8 : decode cX6_bodyOf 8 = .ok (.istore_n 2, 1) := by decide +kernel
theorem dX6_bodyOf_9 : decode cX6_bodyOf 9 = .ok (.iload_n 2, 1) := by decide +kernel
theorem dX6_bodyOf_10 : decode cX6_bodyOf 10 = .ok (.iconst 0, 1) := by decide +kernel
theorem dX6_bodyOf_11 : decode cX6_bodyOf 11 = .ok (.getstatic 40, 3) := by decide +kernel
theorem dX6_bodyOf_14 : decode cX6_bodyOf 14 = .ok (.arraylength, 1) := by decide +kernel
theorem dX6_bodyOf_15 : decode cX6_bodyOf 15 = .ok (.iconst 1, 1) := by decide +kernel
theorem dX6_bodyOf_16 : decode cX6_bodyOf 16 = .ok (.isub, 1) := by decide +kernel
theorem dX6_bodyOf_17 : decode cX6_bodyOf 17 = .ok (.invokestatic 43, 3) := by decide +kernel
theorem dX6_bodyOf_20 : decode cX6_bodyOf 20 = .ok (.ifCond .eq 11, 3) := by decide +kernel
theorem dX6_bodyOf_23 : decode cX6_bodyOf 23 = .ok (.getstatic 40, 3) := by decide +kernel
theorem dX6_bodyOf_26 : decode cX6_bodyOf 26 = .ok (.iload_n 2, 1) := by decide +kernel
theorem dX6_bodyOf_27 : decode cX6_bodyOf 27 = .ok (.iaload, 1) := by decide +kernel
theorem dX6_bodyOf_28 : decode cX6_bodyOf 28 = .ok (.goto 4, 3) := by decide +kernel
theorem dX6_bodyOf_31 : decode cX6_bodyOf 31 = .ok (.iconst 0, 1) := by decide +kernel
theorem dX6_bodyOf_32 : decode cX6_bodyOf 32 = .ok (.ireturn, 1) := by decide +kernel
theorem dX6_body_0 : decode cX6_body 0 = .ok (.iload_n 3, 1) := by decide +kernel
theorem dX6_body_1 : decode cX6_body 1 = .ok (.bipush 40, 2) := by decide +kernel
theorem dX6_body_3 : decode cX6_body 3 = .ok (.if_icmp .le 5, 3) := by decide +kernel
theorem dX6_body_6 : decode cX6_body 6 = .ok (.iconst 0, 1) := by decide +kernel
theorem dX6_body_7 : decode cX6_body 7 = .ok (.ireturn, 1) := by decide +kernel
theorem dX6_body_8 : decode cX6_body 8 = .ok (.aload_n 0, 1) := by decide +kernel
theorem dX6_body_9 : decode cX6_body 9 = .ok (.iload_n 1, 1) := by decide +kernel
theorem dX6_body_10 : decode cX6_body 10 = .ok (.invokevirtual 47, 3) := by decide +kernel
theorem dX6_body_13 : decode cX6_body 13 = .ok (.iload_n 3, 1) := by decide +kernel
theorem dX6_body_14 : decode cX6_body 14 = .ok (.iconst 1, 1) := by decide +kernel
theorem dX6_body_15 : decode cX6_body 15 = .ok (.iadd, 1) := by decide +kernel
theorem dX6_body_16 : decode cX6_body 16 = .ok (.istore 4, 2) := by decide +kernel
theorem dX6_body_18 : decode cX6_body 18 = .ok (.iload_n 1, 1) := by decide +kernel
theorem dX6_body_19 : decode cX6_body 19 = .ok (.lookupswitch 271 #[(10, 97), (11, 104), (12, 119), (13, 126), (20, 152), (30, 175), (40, 187), (50, 198), (60, 210), (70, 233), (71, 248)], 97) := by decide +kernel
theorem dX6_body_116 : decode cX6_body 116 = .ok (.iload_n 2, 1) := by decide +kernel
theorem dX6_body_117 : decode cX6_body 117 = .ok (.aload_n 0, 1) := by decide +kernel
theorem dX6_body_118 : decode cX6_body 118 = .ok (.getfield 25, 3) := by decide +kernel
theorem dX6_body_121 : decode cX6_body 121 = .ok (.iadd, 1) := by decide +kernel
theorem dX6_body_122 : decode cX6_body 122 = .ok (.ireturn, 1) := by decide +kernel
theorem dX6_body_123 : decode cX6_body 123 = .ok (.aload_n 0, 1) := by decide +kernel
theorem dX6_body_124 : decode cX6_body 124 = .ok (.aload_n 0, 1) := by decide +kernel
theorem dX6_body_125 : decode cX6_body 125 = .ok (.iconst 0, 1) := by decide +kernel
theorem dX6_body_126 : decode cX6_body 126 = .ok (.invokevirtual 32, 3) := by decide +kernel
theorem dX6_body_129 : decode cX6_body 129 = .ok (.iload_n 2, 1) := by decide +kernel
theorem dX6_body_130 : decode cX6_body 130 = .ok (.iload 4, 2) := by decide +kernel
theorem dX6_body_132 : decode cX6_body 132 = .ok (.invokevirtual 36, 3) := by decide +kernel
theorem dX6_body_135 : decode cX6_body 135 = .ok (.iconst 2, 1) := by decide +kernel
theorem dX6_body_136 : decode cX6_body 136 = .ok (.imul, 1) := by decide +kernel
theorem dX6_body_137 : decode cX6_body 137 = .ok (.ireturn, 1) := by decide +kernel
theorem dX6_body_138 : decode cX6_body 138 = .ok (.iload_n 2, 1) := by decide +kernel
theorem dX6_body_139 : decode cX6_body 139 = .ok (.aload_n 0, 1) := by decide +kernel
theorem dX6_body_140 : decode cX6_body 140 = .ok (.getfield 22, 3) := by decide +kernel
theorem dX6_body_143 : decode cX6_body 143 = .ok (.isub, 1) := by decide +kernel
theorem dX6_body_144 : decode cX6_body 144 = .ok (.ireturn, 1) := by decide +kernel
theorem dX6_body_145 : decode cX6_body 145 = .ok (.aload_n 0, 1) := by decide +kernel
theorem dX6_body_146 : decode cX6_body 146 = .ok (.aload_n 0, 1) := by decide +kernel
theorem dX6_body_147 : decode cX6_body 147 = .ok (.iconst 1, 1) := by decide +kernel
theorem dX6_body_148 : decode cX6_body 148 = .ok (.invokevirtual 32, 3) := by decide +kernel
theorem dX6_body_151 : decode cX6_body 151 = .ok (.iload_n 2, 1) := by decide +kernel
theorem dX6_body_152 : decode cX6_body 152 = .ok (.iload 4, 2) := by decide +kernel
theorem dX6_body_154 : decode cX6_body 154 = .ok (.invokevirtual 36, 3) := by decide +kernel
theorem dX6_body_157 : decode cX6_body 157 = .ok (.aload_n 0, 1) := by decide +kernel
theorem dX6_body_158 : decode cX6_body 158 = .ok (.aload_n 0, 1) := by decide +kernel
theorem dX6_body_159 : decode cX6_body 159 = .ok (.iconst 2, 1) := by decide +kernel
theorem dX6_body_160 : decode cX6_body 160 = .ok (.invokevirtual 32, 3) := by decide +kernel
theorem dX6_body_163 : decode cX6_body 163 = .ok (.iload_n 2, 1) := by decide +kernel
theorem dX6_body_164 : decode cX6_body 164 = .ok (.iload 4, 2) := by decide +kernel
theorem dX6_body_166 : decode cX6_body 166 = .ok (.invokevirtual 36, 3) := by decide +kernel
theorem dX6_body_169 : decode cX6_body 169 = .ok (.ixor, 1) := by decide +kernel
theorem dX6_body_170 : decode cX6_body 170 = .ok (.ireturn, 1) := by decide +kernel
theorem dX6_body_171 : decode cX6_body 171 = .ok (.aload_n 0, 1) := by decide +kernel
theorem dX6_body_172 : decode cX6_body 172 = .ok (.bipush 11, 2) := by decide +kernel
theorem dX6_body_174 : decode cX6_body 174 = .ok (.iload_n 2, 1) := by decide +kernel
theorem dX6_body_175 : decode cX6_body 175 = .ok (.iload 4, 2) := by decide +kernel
theorem dX6_body_177 : decode cX6_body 177 = .ok (.invokevirtual 36, 3) := by decide +kernel
theorem dX6_body_180 : decode cX6_body 180 = .ok (.aload_n 0, 1) := by decide +kernel
theorem dX6_body_181 : decode cX6_body 181 = .ok (.aload_n 0, 1) := by decide +kernel
theorem dX6_body_182 : decode cX6_body 182 = .ok (.iconst 2, 1) := by decide +kernel
theorem dX6_body_183 : decode cX6_body 183 = .ok (.invokevirtual 32, 3) := by decide +kernel
theorem dX6_body_186 : decode cX6_body 186 = .ok (.iconst 1, 1) := by decide +kernel
theorem dX6_body_187 : decode cX6_body 187 = .ok (.iload 4, 2) := by decide +kernel
theorem dX6_body_189 : decode cX6_body 189 = .ok (.invokevirtual 36, 3) := by decide +kernel
theorem dX6_body_192 : decode cX6_body 192 = .ok (.isub, 1) := by decide +kernel
theorem dX6_body_193 : decode cX6_body 193 = .ok (.ireturn, 1) := by decide +kernel
theorem dX6_body_194 : decode cX6_body 194 = .ok (.aload_n 0, 1) := by decide +kernel
theorem dX6_body_195 : decode cX6_body 195 = .ok (.bipush 10, 2) := by decide +kernel
theorem dX6_body_197 : decode cX6_body 197 = .ok (.iload_n 2, 1) := by decide +kernel
theorem dX6_body_198 : decode cX6_body 198 = .ok (.iload 4, 2) := by decide +kernel
theorem dX6_body_200 : decode cX6_body 200 = .ok (.invokevirtual 36, 3) := by decide +kernel
theorem dX6_body_203 : decode cX6_body 203 = .ok (.iconst 3, 1) := by decide +kernel
theorem dX6_body_204 : decode cX6_body 204 = .ok (.imul, 1) := by decide +kernel
theorem dX6_body_205 : decode cX6_body 205 = .ok (.ireturn, 1) := by decide +kernel
theorem dX6_body_206 : decode cX6_body 206 = .ok (.aload_n 0, 1) := by decide +kernel
theorem dX6_body_207 : decode cX6_body 207 = .ok (.bipush 12, 2) := by decide +kernel
theorem dX6_body_209 : decode cX6_body 209 = .ok (.iload_n 2, 1) := by decide +kernel
theorem dX6_body_210 : decode cX6_body 210 = .ok (.iload 4, 2) := by decide +kernel
theorem dX6_body_212 : decode cX6_body 212 = .ok (.invokevirtual 36, 3) := by decide +kernel
theorem dX6_body_215 : decode cX6_body 215 = .ok (.ineg, 1) := by decide +kernel
theorem dX6_body_216 : decode cX6_body 216 = .ok (.ireturn, 1) := by decide +kernel
theorem dX6_body_217 : decode cX6_body 217 = .ok (.aload_n 0, 1) := by decide +kernel
theorem dX6_body_218 : decode cX6_body 218 = .ok (.bipush 20, 2) := by decide +kernel
theorem dX6_body_220 : decode cX6_body 220 = .ok (.iload_n 2, 1) := by decide +kernel
theorem dX6_body_221 : decode cX6_body 221 = .ok (.iconst 1, 1) := by decide +kernel
theorem dX6_body_222 : decode cX6_body 222 = .ok (.iadd, 1) := by decide +kernel
theorem dX6_body_223 : decode cX6_body 223 = .ok (.iload 4, 2) := by decide +kernel
theorem dX6_body_225 : decode cX6_body 225 = .ok (.invokevirtual 36, 3) := by decide +kernel
theorem dX6_body_228 : decode cX6_body 228 = .ok (.ireturn, 1) := by decide +kernel
theorem dX6_body_229 : decode cX6_body 229 = .ok (.aload_n 0, 1) := by decide +kernel
theorem dX6_body_230 : decode cX6_body 230 = .ok (.bipush 13, 2) := by decide +kernel
theorem dX6_body_232 : decode cX6_body 232 = .ok (.iload_n 2, 1) := by decide +kernel
theorem dX6_body_233 : decode cX6_body 233 = .ok (.iload 4, 2) := by decide +kernel
theorem dX6_body_235 : decode cX6_body 235 = .ok (.invokevirtual 36, 3) := by decide +kernel
theorem dX6_body_238 : decode cX6_body 238 = .ok (.aload_n 0, 1) := by decide +kernel
theorem dX6_body_239 : decode cX6_body 239 = .ok (.aload_n 0, 1) := by decide +kernel
theorem dX6_body_240 : decode cX6_body 240 = .ok (.iconst 0, 1) := by decide +kernel
theorem dX6_body_241 : decode cX6_body 241 = .ok (.invokevirtual 32, 3) := by decide +kernel
theorem dX6_body_244 : decode cX6_body 244 = .ok (.iconst 2, 1) := by decide +kernel
theorem dX6_body_245 : decode cX6_body 245 = .ok (.iload 4, 2) := by decide +kernel
theorem dX6_body_247 : decode cX6_body 247 = .ok (.invokevirtual 36, 3) := by decide +kernel
theorem dX6_body_250 : decode cX6_body 250 = .ok (.isub, 1) := by decide +kernel
theorem dX6_body_251 : decode cX6_body 251 = .ok (.ireturn, 1) := by decide +kernel
theorem dX6_body_252 : decode cX6_body 252 = .ok (.aload_n 0, 1) := by decide +kernel
theorem dX6_body_253 : decode cX6_body 253 = .ok (.bipush 40, 2) := by decide +kernel
theorem dX6_body_255 : decode cX6_body 255 = .ok (.iload_n 2, 1) := by decide +kernel
theorem dX6_body_256 : decode cX6_body 256 = .ok (.iload 4, 2) := by decide +kernel
theorem dX6_body_258 : decode cX6_body 258 = .ok (.invokevirtual 36, 3) := by decide +kernel
theorem dX6_body_261 : decode cX6_body 261 = .ok (.aload_n 0, 1) := by decide +kernel
theorem dX6_body_262 : decode cX6_body 262 = .ok (.getfield 25, 3) := by decide +kernel
theorem dX6_body_265 : decode cX6_body 265 = .ok (.ixor, 1) := by decide +kernel
theorem dX6_body_266 : decode cX6_body 266 = .ok (.ireturn, 1) := by decide +kernel
theorem dX6_body_267 : decode cX6_body 267 = .ok (.aload_n 0, 1) := by decide +kernel
theorem dX6_body_268 : decode cX6_body 268 = .ok (.aload_n 0, 1) := by decide +kernel
theorem dX6_body_269 : decode cX6_body 269 = .ok (.iconst 1, 1) := by decide +kernel
theorem dX6_body_270 : decode cX6_body 270 = .ok (.invokevirtual 32, 3) := by decide +kernel
theorem dX6_body_273 : decode cX6_body 273 = .ok (.iload_n 2, 1) := by decide +kernel
theorem dX6_body_274 : decode cX6_body 274 = .ok (.iload 4, 2) := by decide +kernel
theorem dX6_body_276 : decode cX6_body 276 = .ok (.invokevirtual 36, 3) := by decide +kernel
theorem dX6_body_279 : decode cX6_body 279 = .ok (.aload_n 0, 1) := by decide +kernel
theorem dX6_body_280 : decode cX6_body 280 = .ok (.bipush 13, 2) := by decide +kernel
theorem dX6_body_282 : decode cX6_body 282 = .ok (.iload_n 2, 1) := by decide +kernel
theorem dX6_body_283 : decode cX6_body 283 = .ok (.iload 4, 2) := by decide +kernel
theorem dX6_body_285 : decode cX6_body 285 = .ok (.invokevirtual 36, 3) := by decide +kernel
theorem dX6_body_288 : decode cX6_body 288 = .ok (.isub, 1) := by decide +kernel
theorem dX6_body_289 : decode cX6_body 289 = .ok (.ireturn, 1) := by decide +kernel
theorem dX6_body_290 : decode cX6_body 290 = .ok (.iconst 0, 1) := by decide +kernel
theorem dX6_body_291 : decode cX6_body 291 = .ok (.ireturn, 1) := by decide +kernel
theorem dX6_begin_0 : decode cX6_begin 0 = .ok (.aload_n 0, 1) := by decide +kernel
theorem dX6_begin_1 : decode cX6_begin 1 = .ok (.getfield 15, 3) := by decide +kernel
theorem dX6_begin_4 : decode cX6_begin 4 = .ok (.aload_n 0, 1) := by decide +kernel
theorem dX6_begin_5 : decode cX6_begin 5 = .ok (.getfield 9, 3) := by decide +kernel
theorem dX6_begin_8 : decode cX6_begin 8 = .ok (.arraylength, 1) := by decide +kernel
theorem dX6_begin_9 : decode cX6_begin 9 = .ok (.if_icmp .lt 4, 3) := by decide +kernel
theorem dX6_begin_12 : decode cX6_begin 12 = .ok (.return_, 1) := by decide +kernel
theorem dX6_begin_13 : decode cX6_begin 13 = .ok (.aload_n 0, 1) := by decide +kernel
theorem dX6_begin_14 : decode cX6_begin 14 = .ok (.getfield 9, 3) := by decide +kernel
theorem dX6_begin_17 : decode cX6_begin 17 = .ok (.aload_n 0, 1) := by decide +kernel
theorem dX6_begin_18 : decode cX6_begin 18 = .ok (.getfield 15, 3) := by decide +kernel
theorem dX6_begin_21 : decode cX6_begin 21 = .ok (.iload_n 1, 1) := by decide +kernel
theorem dX6_begin_22 : decode cX6_begin 22 = .ok (.iastore, 1) := by decide +kernel
theorem dX6_begin_23 : decode cX6_begin 23 = .ok (.aload_n 0, 1) := by decide +kernel
theorem dX6_begin_24 : decode cX6_begin 24 = .ok (.dup, 1) := by decide +kernel
theorem dX6_begin_25 : decode cX6_begin 25 = .ok (.getfield 15, 3) := by decide +kernel
theorem dX6_begin_28 : decode cX6_begin 28 = .ok (.iconst 1, 1) := by decide +kernel
theorem dX6_begin_29 : decode cX6_begin 29 = .ok (.iadd, 1) := by decide +kernel
theorem dX6_begin_30 : decode cX6_begin 30 = .ok (.putfield 15, 3) := by decide +kernel
theorem dX6_begin_33 : decode cX6_begin 33 = .ok (.return_, 1) := by decide +kernel
theorem dX7_init_0 : decode cX7_init 0 = .ok (.aload_n 0, 1) := by decide +kernel
theorem dX7_init_1 : decode cX7_init 1 = .ok (.invokespecial 1, 3) := by decide +kernel
theorem dX7_init_4 : decode cX7_init 4 = .ok (.aload_n 0, 1) := by decide +kernel
theorem dX7_init_5 : decode cX7_init 5 = .ok (.new 7, 3) := by decide +kernel
theorem dX7_init_8 : decode cX7_init 8 = .ok (.dup, 1) := by decide +kernel
theorem dX7_init_9 : decode cX7_init 9 = .ok (.invokespecial 9, 3) := by decide +kernel
theorem dX7_init_12 : decode cX7_init 12 = .ok (.putfield 10, 3) := by decide +kernel
theorem dX7_init_15 : decode cX7_init 15 = .ok (.aload_n 0, 1) := by decide +kernel
theorem dX7_init_16 : decode cX7_init 16 = .ok (.new 7, 3) := by decide +kernel
theorem dX7_init_19 : decode cX7_init 19 = .ok (.dup, 1) := by decide +kernel
theorem dX7_init_20 : decode cX7_init 20 = .ok (.invokespecial 9, 3) := by decide +kernel
theorem dX7_init_23 : decode cX7_init 23 = .ok (.putfield 16, 3) := by decide +kernel
theorem dX7_init_26 : decode cX7_init 26 = .ok (.aload_n 0, 1) := by decide +kernel
theorem dX7_init_27 : decode cX7_init 27 = .ok (.new 7, 3) := by decide +kernel
theorem dX7_init_30 : decode cX7_init 30 = .ok (.dup, 1) := by decide +kernel
theorem dX7_init_31 : decode cX7_init 31 = .ok (.invokespecial 9, 3) := by decide +kernel
theorem dX7_init_34 : decode cX7_init 34 = .ok (.putfield 19, 3) := by decide +kernel
theorem dX7_init_37 : decode cX7_init 37 = .ok (.aload_n 0, 1) := by decide +kernel
theorem dX7_init_38 : decode cX7_init 38 = .ok (.iconst 0, 1) := by decide +kernel
theorem dX7_init_39 : decode cX7_init 39 = .ok (.putfield 22, 3) := by decide +kernel
theorem dX7_init_42 : decode cX7_init 42 = .ok (.aload_n 0, 1) := by decide +kernel
theorem dX7_init_43 : decode cX7_init 43 = .ok (.new 26, 3) := by decide +kernel
theorem dX7_init_46 : decode cX7_init 46 = .ok (.dup, 1) := by decide +kernel
theorem dX7_init_47 : decode cX7_init 47 = .ok (.invokespecial 28, 3) := by decide +kernel
theorem dX7_init_50 : decode cX7_init 50 = .ok (.putfield 29, 3) := by decide +kernel
theorem dX7_init_53 : decode cX7_init 53 = .ok (.aload_n 0, 1) := by decide +kernel
theorem dX7_init_54 : decode cX7_init 54 = .ok (.new 33, 3) := by decide +kernel
theorem dX7_init_57 : decode cX7_init 57 = .ok (.dup, 1) := by decide +kernel
theorem dX7_init_58 : decode cX7_init 58 = .ok (.invokespecial 35, 3) := by decide +kernel
theorem dX7_init_61 : decode cX7_init 61 = .ok (.putfield 36, 3) := by decide +kernel
theorem dX7_init_64 : decode cX7_init 64 = .ok (.aload_n 0, 1) := by decide +kernel
theorem dX7_init_65 : decode cX7_init 65 = .ok (.new 40, 3) := by decide +kernel
theorem dX7_init_68 : decode cX7_init 68 = .ok (.dup, 1) := by decide +kernel
theorem dX7_init_69 : decode cX7_init 69 = .ok (.invokespecial 42, 3) := by decide +kernel
theorem dX7_init_72 : decode cX7_init 72 = .ok (.putfield 43, 3) := by decide +kernel
theorem dX7_init_75 : decode cX7_init 75 = .ok (.aload_n 0, 1) := by decide +kernel
theorem dX7_init_76 : decode cX7_init 76 = .ok (.new 47, 3) := by decide +kernel
theorem dX7_init_79 : decode cX7_init 79 = .ok (.dup, 1) := by decide +kernel
theorem dX7_init_80 : decode cX7_init 80 = .ok (.invokespecial 49, 3) := by decide +kernel
theorem dX7_init_83 : decode cX7_init 83 = .ok (.putfield 50, 3) := by decide +kernel
theorem dX7_init_86 : decode cX7_init 86 = .ok (.aload_n 0, 1) := by decide +kernel
theorem dX7_init_87 : decode cX7_init 87 = .ok (.iconst 4, 1) := by decide +kernel
theorem dX7_init_88 : decode cX7_init 88 = .ok (.anewarray 54, 3) := by decide +kernel
theorem dX7_init_91 : decode cX7_init 91 = .ok (.putfield 56, 3) := by decide +kernel
theorem dX7_init_94 : decode cX7_init 94 = .ok (.aload_n 0, 1) := by decide +kernel
theorem dX7_init_95 : decode cX7_init 95 = .ok (.bipush 6, 2) := by decide +kernel
theorem dX7_init_97 : decode cX7_init 97 = .ok (.newarray .int, 2) := by decide +kernel
theorem dX7_init_99 : decode cX7_init 99 = .ok (.putfield 60, 3) := by decide +kernel
theorem dX7_init_102 : decode cX7_init 102 = .ok (.iconst 0, 1) := by decide +kernel
theorem dX7_init_103 : decode cX7_init 103 = .ok (.istore_n 1, 1) := by decide +kernel
theorem dX7_init_104 : decode cX7_init 104 = .ok (.iload_n 1, 1) := by decide +kernel
theorem dX7_init_105 : decode cX7_init 105 = .ok (.aload_n 0, 1) := by decide +kernel
theorem dX7_init_106 : decode cX7_init 106 = .ok (.getfield 56, 3) := by decide +kernel
theorem dX7_init_109 : decode cX7_init 109 = .ok (.arraylength, 1) := by decide +kernel
theorem dX7_init_110 : decode cX7_init 110 = .ok (.if_icmp .ge 22, 3) := by decide +kernel
theorem dX7_init_113 : decode cX7_init 113 = .ok (.aload_n 0, 1) := by decide +kernel
theorem dX7_init_114 : decode cX7_init 114 = .ok (.getfield 56, 3) := by decide +kernel
theorem dX7_init_117 : decode cX7_init 117 = .ok (.iload_n 1, 1) := by decide +kernel
theorem dX7_init_118 : decode cX7_init 118 = .ok (.new 54, 3) := by decide +kernel
theorem dX7_init_121 : decode cX7_init 121 = .ok (.dup, 1) := by decide +kernel
theorem dX7_init_122 : decode cX7_init 122 = .ok (.invokespecial 64, 3) := by decide +kernel
theorem dX7_init_125 : decode cX7_init 125 = .ok (.aastore, 1) := by decide +kernel
theorem dX7_init_126 : decode cX7_init 126 = .ok (.iinc 1 1, 3) := by decide +kernel
theorem dX7_init_129 : decode cX7_init 129 = .ok (.goto (-25), 3) := by decide +kernel
theorem dX7_init_132 : decode cX7_init 132 = .ok (.return_, 1) := by decide +kernel
theorem dX7_knife_0 : decode cX7_knife 0 = .ok (.iload_n 1, 1) := by decide +kernel
theorem dX7_knife_1 : decode cX7_knife 1 = .ok (.iload_n 2, 1) := by decide +kernel
theorem dX7_knife_2 : decode cX7_knife 2 = .ok (.iload_n 3, 1) := by decide +kernel
theorem dX7_knife_3 : decode cX7_knife 3 = .ok (.invokestatic 65, 3) := by decide +kernel
theorem dX7_knife_6 : decode cX7_knife 6 = .ok (.ifCond .ne 9, 3) := by decide +kernel
theorem dX7_knife_9 : decode cX7_knife 9 = .ok (.aload_n 0, 1) := by decide +kernel
theorem dX7_knife_10 : decode cX7_knife 10 = .ok (.iconst 1, 1) := by decide +kernel
theorem dX7_knife_11 : decode cX7_knife 11 = .ok (.invokevirtual 69, 3) := by decide +kernel
theorem dX7_knife_14 : decode cX7_knife 14 = .ok (.ireturn, 1) := by decide +kernel
theorem dX7_knife_15 : decode cX7_knife 15 = .ok (.aload_n 0, 1) := by decide +kernel
theorem dX7_knife_16 : decode cX7_knife 16 = .ok (.getfield 10, 3) := by decide +kernel
theorem dX7_knife_19 : decode cX7_knife 19 = .ok (.invokevirtual 73, 3) := by decide +kernel
theorem dX7_knife_22 : decode cX7_knife 22 = .ok (.ifCond .eq 9, 3) := by decide +kernel
theorem dX7_knife_25 : decode cX7_knife 25 = .ok (.aload_n 0, 1) := by decide +kernel
theorem dX7_knife_26 : decode cX7_knife 26 = .ok (.iconst 4, 1) := by decide +kernel
theorem dX7_knife_27 : decode cX7_knife 27 = .ok (.invokevirtual 69, 3) := by decide +kernel
theorem dX7_knife_30 : decode cX7_knife 30 = .ok (.ireturn, 1) := by decide +kernel
theorem dX7_knife_31 : decode cX7_knife 31 = .ok (.aload_n 0, 1) := by decide +kernel
theorem dX7_knife_32 : decode cX7_knife 32 = .ok (.getfield 10, 3) := by decide +kernel
theorem dX7_knife_35 : decode cX7_knife 35 = .ok (.iload_n 1, 1) := by decide +kernel
theorem dX7_knife_36 : decode cX7_knife 36 = .ok (.iload_n 2, 1) := by decide +kernel
theorem dX7_knife_37 : decode cX7_knife 37 = .ok (.iload_n 3, 1) := by decide +kernel
theorem dX7_knife_38 : decode cX7_knife 38 = .ok (.invokevirtual 77, 3) := by decide +kernel
theorem dX7_knife_41 : decode cX7_knife 41 = .ok (.ireturn, 1) := by decide +kernel
theorem dX7_ofKnife_0 : decode cX7_ofKnife 0 = .ok (.aload_n 0, 1) := by decide +kernel
theorem dX7_ofKnife_1 : decode cX7_ofKnife 1 = .ok (.iload_n 1, 1) := by decide +kernel
theorem dX7_ofKnife_2 : decode cX7_ofKnife 2 = .ok (.invokevirtual 81, 3) := by decide +kernel
theorem dX7_ofKnife_5 : decode cX7_ofKnife 5 = .ok (.ifCond .eq 13, 3) := by decide +kernel
theorem dX7_ofKnife_8 : decode cX7_ofKnife 8 = .ok (.iload_n 2, 1) := by decide +kernel
theorem dX7_ofKnife_9 : decode cX7_ofKnife 9 = .ok (.iconst 0, 1) := by decide +kernel
theorem dX7_ofKnife_10 : decode cX7_ofKnife 10 = .ok (.bipush 9, 2) := by decide +kernel
theorem dX7_ofKnife_12 : decode cX7_ofKnife 12 = .ok (.invokestatic 85, 3) := by decide +kernel
theorem dX7_ofKnife_15 : decode cX7_ofKnife 15 = .ok (.ifCond .ne 9, 3) := by decide +kernel
theorem dX7_ofKnife_18 : decode cX7_ofKnife 18 = .ok (.aload_n 0, 1) := by decide +kernel
theorem dX7_ofKnife_19 : decode cX7_ofKnife 19 = .ok (.iconst 1, 1) := by decide +kernel
theorem dX7_ofKnife_20 : decode cX7_ofKnife 20 = .ok (.invokevirtual 69, 3) := by decide +kernel
theorem dX7_ofKnife_23 : decode cX7_ofKnife 23 = .ok (.ireturn, 1) := by decide +kernel
theorem dX7_ofKnife_24 : decode cX7_ofKnife 24 = .ok (.aload_n 0, 1) := by decide +kernel
theorem dX7_ofKnife_25 : decode cX7_ofKnife 25 = .ok (.getfield 10, 3) := by decide +kernel
theorem dX7_ofKnife_28 : decode cX7_ofKnife 28 = .ok (.aload_n 0, 1) := by decide +kernel
theorem dX7_ofKnife_29 : decode cX7_ofKnife 29 = .ok (.getfield 10, 3) := by decide +kernel
theorem dX7_ofKnife_32 : decode cX7_ofKnife 32 = .ok (.getfield 88, 3) := by decide +kernel
theorem dX7_ofKnife_35 : decode cX7_ofKnife 35 = .ok (.iload_n 1, 1) := by decide +kernel
theorem dX7_ofKnife_36 : decode cX7_ofKnife 36 = .ok (.aaload, 1) := by decide +kernel
theorem dX7_ofKnife_37 : decode cX7_ofKnife 37 = .ok (.iload_n 2, 1) := by decide +kernel
theorem dX7_ofKnife_38 : decode cX7_ofKnife 38 = .ok (.invokevirtual 92, 3) := by decide +kernel
theorem dX7_ofKnife_41 : decode cX7_ofKnife 41 = .ok (.ireturn, 1) := by decide +kernel
theorem dX7_change_0 : decode cX7_change 0 = .ok (.aload_n 0, 1) := by decide +kernel
theorem dX7_change_1 : decode cX7_change 1 = .ok (.iload_n 1, 1) := by decide +kernel
theorem dX7_change_2 : decode cX7_change 2 = .ok (.invokevirtual 81, 3) := by decide +kernel
theorem dX7_change_5 : decode cX7_change 5 = .ok (.ifCond .eq 17, 3) := by decide +kernel
theorem dX7_change_8 : decode cX7_change 8 = .ok (.iload_n 2, 1) := by decide +kernel
theorem dX7_change_9 : decode cX7_change 9 = .ok (.iconst 0, 1) := by decide +kernel
theorem dX7_change_10 : decode cX7_change 10 = .ok (.getstatic 96, 3) := by decide +kernel
theorem dX7_change_13 : decode cX7_change 13 = .ok (.arraylength, 1) := by decide +kernel
theorem dX7_change_14 : decode cX7_change 14 = .ok (.iconst 1, 1) := by decide +kernel
theorem dX7_change_15 : decode cX7_change 15 = .ok (.isub, 1) := by decide +kernel
theorem dX7_change_16 : decode cX7_change 16 = .ok (.invokestatic 85, 3) := by decide +kernel
theorem dX7_change_19 : decode cX7_change 19 = .ok (.ifCond .ne 9, 3) := by decide +kernel
theorem dX7_change_22 : decode cX7_change 22 = .ok (.aload_n 0, 1) := by decide +kernel
theorem dX7_change_23 : decode cX7_change 23 = .ok (.iconst 1, 1) := by decide +kernel
theorem dX7_change_24 : decode cX7_change 24 = .ok (.invokevirtual 69, 3) := by decide +kernel
theorem dX7_change_27 : decode cX7_change 27 = .ok (.ireturn, 1) := by decide +kernel
theorem dX7_change_28 : decode cX7_change 28 = .ok (.iload_n 3, 1) := by decide +kernel
theorem dX7_change_29 : decode cX7_change 29 = .ok (.iconst 0, 1) := by decide +kernel
theorem dX7_change_30 : decode cX7_change 30 = .ok (.getstatic 96, 3) := by decide +kernel
theorem dX7_change_33 : decode cX7_change 33 = .ok (.iload_n 2, 1) := by decide +kernel
theorem dX7_change_34 : decode cX7_change 34 = .ok (.iaload, 1) := by decide +kernel
theorem dX7_change_35 : decode cX7_change 35 = .ok (.invokestatic 85, 3) := by decide +kernel
theorem dX7_change_38 : decode cX7_change 38 = .ok (.ifCond .ne 9, 3) := by decide +kernel
theorem dX7_change_41 : decode cX7_change 41 = .ok (.aload_n 0, 1) := by decide +kernel
theorem dX7_change_42 : decode cX7_change 42 = .ok (.iconst 1, 1) := by decide +kernel
theorem dX7_change_43 : decode cX7_change 43 = .ok (.invokevirtual 69, 3) := by decide +kernel
theorem dX7_change_46 : decode cX7_change 46 = .ok (.ireturn, 1) := by decide +kernel
theorem dX7_change_47 : decode cX7_change 47 = .ok (.aload_n 0, 1) := by decide +kernel
theorem dX7_change_48 : decode cX7_change 48 = .ok (.getfield 10, 3) := by decide +kernel
theorem dX7_change_51 : decode cX7_change 51 = .ok (.getfield 88, 3) := by decide +kernel
theorem dX7_change_54 : decode cX7_change 54 = .ok (.iload_n 1, 1) := by decide +kernel
theorem dX7_change_55 : decode cX7_change 55 = .ok (.aaload, 1) := by decide +kernel
theorem dX7_change_56 : decode cX7_change 56 = .ok (.astore 4, 2) := by decide +kernel
theorem dX7_change_58 : decode cX7_change 58 = .ok (.aload 4, 2) := by decide +kernel
theorem dX7_change_60 : decode cX7_change 60 = .ok (.iload_n 2, 1) := by decide +kernel
theorem dX7_change_61 : decode cX7_change 61 = .ok (.invokevirtual 99, 3) := by decide +kernel
theorem dX7_change_64 : decode cX7_change 64 = .ok (.istore 5, 2) := by decide +kernel
theorem dX7_change_66 : decode cX7_change 66 = .ok (.aload 4, 2) := by decide +kernel
theorem dX7_change_68 : decode cX7_change 68 = .ok (.iload_n 2, 1) := by decide +kernel
theorem dX7_change_69 : decode cX7_change 69 = .ok (.iload_n 3, 1) := by decide +kernel
theorem dX7_change_70 : decode cX7_change 70 = .ok (.invokevirtual 102, 3) := by decide +kernel
theorem dX7_change_73 : decode cX7_change 73 = .ok (.iload 5, 2) := by decide +kernel
theorem dX7_change_75 : decode cX7_change 75 = .ok (.ireturn, 1) := by decide +kernel
theorem dX7_become_0 : decode cX7_become 0 = .ok (.aload_n 0, 1) := by decide +kernel
theorem dX7_become_1 : decode cX7_become 1 = .ok (.iload_n 1, 1) := by decide +kernel
theorem dX7_become_2 : decode cX7_become 2 = .ok (.invokevirtual 81, 3) := by decide +kernel
theorem dX7_become_5 : decode cX7_become 5 = .ok (.ifCond .eq 13, 3) := by decide +kernel
theorem dX7_become_8 : decode cX7_become 8 = .ok (.iload_n 2, 1) := by decide +kernel
theorem dX7_become_9 : decode cX7_become 9 = .ok (.iconst 0, 1) := by decide +kernel
theorem dX7_become_10 : decode cX7_become 10 = .ok (.bipush 69, 2) := by decide +kernel
theorem dX7_become_12 : decode cX7_become 12 = .ok (.invokestatic 85, 3) := by decide +kernel
theorem dX7_become_15 : decode cX7_become 15 = .ok (.ifCond .ne 9, 3) := by decide +kernel
theorem dX7_become_18 : decode cX7_become 18 = .ok (.aload_n 0, 1) := by decide +kernel
theorem dX7_become_19 : decode cX7_become 19 = .ok (.iconst 1, 1) := by decide +kernel
theorem dX7_become_20 : decode cX7_become 20 = .ok (.invokevirtual 69, 3) := by decide +kernel
theorem dX7_become_23 : decode cX7_become 23 = .ok (.ireturn, 1) := by decide +kernel
theorem dX7_become_24 : decode cX7_become 24 = .ok (.aload_n 0, 1) := by decide +kernel
theorem dX7_become_25 : decode cX7_become 25 = .ok (.getfield 10, 3) := by decide +kernel
theorem dX7_become_28 : decode cX7_become 28 = .ok (.getfield 88, 3) := by decide +kernel
theorem dX7_become_31 : decode cX7_become 31 = .ok (.iload_n 1, 1) := by decide +kernel
theorem dX7_become_32 : decode cX7_become 32 = .ok (.aaload, 1) := by decide +kernel
theorem dX7_become_33 : decode cX7_become 33 = .ok (.astore_n 3, 1) := by decide +kernel
theorem dX7_become_34 : decode cX7_become 34 = .ok (.aload_n 3, 1) := by decide +kernel
theorem dX7_become_35 : decode cX7_become 35 = .ok (.getfield 106, 3) := by decide +kernel
theorem dX7_become_38 : decode cX7_become 38 = .ok (.istore 4, 2) := by decide +kernel
theorem dX7_become_40 : decode cX7_become 40 = .ok (.aload_n 3, 1) := by decide +kernel
theorem dX7_become_41 : decode cX7_become 41 = .ok (.iload_n 2, 1) := by decide +kernel
theorem dX7_become_42 : decode cX7_become 42 = .ok (.invokevirtual 109, 3) := by decide +kernel
theorem dX7_become_45 : decode cX7_become 45 = .ok (.iload 4, 2) := by decide +kernel
theorem dX7_become_47 : decode cX7_become 47 = .ok (.ireturn, 1) := by decide +kernel
theorem dX7_as_0 : decode cX7_as 0 = .ok (.aload_n 0, 1) := by decide +kernel
theorem dX7_as_1 : decode cX7_as 1 = .ok (.iload_n 1, 1) := by decide +kernel
theorem dX7_as_2 : decode cX7_as 2 = .ok (.invokevirtual 81, 3) := by decide +kernel
theorem dX7_as_5 : decode cX7_as 5 = .ok (.ifCond .eq 13, 3) := by decide +kernel
theorem dX7_as_8 : decode cX7_as 8 = .ok (.iload_n 2, 1) := by decide +kernel
theorem dX7_as_9 : decode cX7_as 9 = .ok (.iconst 0, 1) := by decide +kernel
theorem dX7_as_10 : decode cX7_as 10 = .ok (.bipush 6, 2) := by decide +kernel
theorem dX7_as_12 : decode cX7_as 12 = .ok (.invokestatic 85, 3) := by decide +kernel
theorem dX7_as_15 : decode cX7_as 15 = .ok (.ifCond .ne 9, 3) := by decide +kernel
theorem dX7_as_18 : decode cX7_as 18 = .ok (.aload_n 0, 1) := by decide +kernel
theorem dX7_as_19 : decode cX7_as 19 = .ok (.iconst 1, 1) := by decide +kernel
theorem dX7_as_20 : decode cX7_as 20 = .ok (.invokevirtual 69, 3) := by decide +kernel
theorem dX7_as_23 : decode cX7_as 23 = .ok (.ireturn, 1) := by decide +kernel
theorem dX7_as_24 : decode cX7_as 24 = .ok (.aload_n 0, 1) := by decide +kernel
theorem dX7_as_25 : decode cX7_as 25 = .ok (.getfield 10, 3) := by decide +kernel
theorem dX7_as_28 : decode cX7_as 28 = .ok (.getfield 88, 3) := by decide +kernel
theorem dX7_as_31 : decode cX7_as 31 = .ok (.iload_n 1, 1) := by decide +kernel
theorem dX7_as_32 : decode cX7_as 32 = .ok (.aaload, 1) := by decide +kernel
theorem dX7_as_33 : decode cX7_as 33 = .ok (.getfield 106, 3) := by decide +kernel
theorem dX7_as_36 : decode cX7_as 36 = .ok (.iload_n 2, 1) := by decide +kernel
theorem dX7_as_37 : decode cX7_as 37 = .ok (.invokestatic 113, 3) := by decide +kernel
theorem dX7_as_40 : decode cX7_as 40 = .ok (.ifCond .ne 9, 3) := by decide +kernel
theorem dX7_as_43 : decode cX7_as 43 = .ok (.aload_n 0, 1) := by decide +kernel
theorem dX7_as_44 : decode cX7_as 44 = .ok (.iconst 5, 1) := by decide +kernel
theorem dX7_as_45 : decode cX7_as 45 = .ok (.invokevirtual 69, 3) := by decide +kernel
theorem dX7_as_48 : decode cX7_as 48 = .ok (.ireturn, 1) := by decide +kernel
theorem dX7_as_49 : decode cX7_as 49 = .ok (.aload_n 0, 1) := by decide +kernel
theorem dX7_as_50 : decode cX7_as 50 = .ok (.getfield 10, 3) := by decide +kernel
theorem dX7_as_53 : decode cX7_as 53 = .ok (.getfield 88, 3) := by decide +kernel
theorem dX7_as_56 : decode cX7_as 56 = .ok (.iload_n 1, 1) := by decide +kernel
theorem dX7_as_57 : decode cX7_as 57 = .ok (.aaload, 1) := by decide +kernel
theorem dX7_as_58 : decode cX7_as 58 = .ok (.getfield 117, 3) := by decide +kernel
theorem dX7_as_61 : decode cX7_as 61 = .ok (.ireturn, 1) := by decide +kernel
theorem dX7_gains_0 : decode cX7_gains 0 = .ok (.aload_n 0, 1) := by decide +kernel
theorem dX7_gains_1 : decode cX7_gains 1 = .ok (.iload_n 1, 1) := by decide +kernel
theorem dX7_gains_2 : decode cX7_gains 2 = .ok (.invokevirtual 81, 3) := by decide +kernel
theorem dX7_gains_5 : decode cX7_gains 5 = .ok (.ifCond .eq 10, 3) := by decide +kernel
theorem dX7_gains_8 : decode cX7_gains 8 = .ok (.iload_n 2, 1) := by decide +kernel
theorem dX7_gains_9 : decode cX7_gains 9 = .ok (.invokestatic 120, 3) := by decide +kernel
theorem dX7_gains_12 : decode cX7_gains 12 = .ok (.ifCond .ne 9, 3) := by decide +kernel
theorem dX7_gains_15 : decode cX7_gains 15 = .ok (.aload_n 0, 1) := by decide +kernel
theorem dX7_gains_16 : decode cX7_gains 16 = .ok (.iconst 1, 1) := by decide +kernel
theorem dX7_gains_17 : decode cX7_gains 17 = .ok (.invokevirtual 69, 3) := by decide +kernel
theorem dX7_gains_20 : decode cX7_gains 20 = .ok (.ireturn, 1) := by decide +kernel
theorem dX7_gains_21 : decode cX7_gains 21 = .ok (.aload_n 0, 1) := by decide +kernel
theorem dX7_gains_22 : decode cX7_gains 22 = .ok (.getfield 10, 3) := by decide +kernel
theorem dX7_gains_25 : decode cX7_gains 25 = .ok (.getfield 88, 3) := by decide +kernel
theorem dX7_gains_28 : decode cX7_gains 28 = .ok (.iload_n 1, 1) := by decide +kernel
theorem dX7_gains_29 : decode cX7_gains 29 = .ok (.aaload, 1) := by decide +kernel
theorem dX7_gains_30 : decode cX7_gains 30 = .ok (.iload_n 2, 1) := by decide +kernel
theorem dX7_gains_31 : decode cX7_gains 31 = .ok (.invokevirtual 123, 3) := by decide +kernel
theorem dX7_gains_34 : decode cX7_gains 34 = .ok (.ireturn, 1) := by decide +kernel
theorem dX7_turn_0 : decode cX7_turn 0 = .ok (.aload_n 0, 1) := by decide +kernel
theorem dX7_turn_1 : decode cX7_turn 1 = .ok (.iload_n 1, 1) := by decide +kernel
theorem dX7_turn_2 : decode cX7_turn 2 = .ok (.invokevirtual 81, 3) := by decide +kernel
theorem dX7_turn_5 : decode cX7_turn 5 = .ok (.ifCond .eq 20, 3) := by decide +kernel
theorem dX7_turn_8 : decode cX7_turn 8 = .ok (.iload_n 2, 1) := by decide +kernel
theorem dX7_turn_9 : decode cX7_turn 9 = .ok (.invokestatic 120, 3) := by decide +kernel
theorem dX7_turn_12 : decode cX7_turn 12 = .ok (.ifCond .eq 13, 3) := by decide +kernel
theorem dX7_turn_15 : decode cX7_turn 15 = .ok (.iload_n 3, 1) := by decide +kernel
theorem dX7_turn_16 : decode cX7_turn 16 = .ok (.iconst 1, 1) := by decide +kernel
theorem dX7_turn_17 : decode cX7_turn 17 = .ok (.bipush 60, 2) := by decide +kernel
theorem dX7_turn_19 : decode cX7_turn 19 = .ok (.invokestatic 85, 3) := by decide +kernel
theorem dX7_turn_22 : decode cX7_turn 22 = .ok (.ifCond .ne 9, 3) := by decide +kernel
theorem dX7_turn_25 : decode cX7_turn 25 = .ok (.aload_n 0, 1) := by decide +kernel
theorem dX7_turn_26 : decode cX7_turn 26 = .ok (.iconst 1, 1) := by decide +kernel
theorem dX7_turn_27 : decode cX7_turn 27 = .ok (.invokevirtual 69, 3) := by decide +kernel
theorem dX7_turn_30 : decode cX7_turn 30 = .ok (.ireturn, 1) := by decide +kernel
theorem dX7_turn_31 : decode cX7_turn 31 = .ok (.aload_n 0, 1) := by decide +kernel
theorem dX7_turn_32 : decode cX7_turn 32 = .ok (.getfield 10, 3) := by decide +kernel
theorem dX7_turn_35 : decode cX7_turn 35 = .ok (.getfield 88, 3) := by decide +kernel
theorem dX7_turn_38 : decode cX7_turn 38 = .ok (.iload_n 1, 1) := by decide +kernel
theorem dX7_turn_39 : decode cX7_turn 39 = .ok (.aaload, 1) := by decide +kernel
theorem dX7_turn_40 : decode cX7_turn 40 = .ok (.iload_n 2, 1) := by decide +kernel
theorem dX7_turn_41 : decode cX7_turn 41 = .ok (.iload_n 3, 1) := by decide +kernel
theorem dX7_turn_42 : decode cX7_turn 42 = .ok (.aload_n 0, 1) := by decide +kernel
theorem dX7_turn_43 : decode cX7_turn 43 = .ok (.getfield 10, 3) := by decide +kernel
theorem dX7_turn_46 : decode cX7_turn 46 = .ok (.getfield 126, 3) := by decide +kernel
theorem dX7_turn_49 : decode cX7_turn 49 = .ok (.invokevirtual 129, 3) := by decide +kernel
theorem dX7_turn_52 : decode cX7_turn 52 = .ok (.aload_n 0, 1) := by decide +kernel
theorem dX7_turn_53 : decode cX7_turn 53 = .ok (.getfield 10, 3) := by decide +kernel
theorem dX7_turn_56 : decode cX7_turn 56 = .ok (.getfield 88, 3) := by decide +kernel
theorem dX7_turn_59 : decode cX7_turn 59 = .ok (.iload_n 1, 1) := by decide +kernel
theorem dX7_turn_60 : decode cX7_turn 60 = .ok (.aaload, 1) := by decide +kernel
theorem dX7_turn_61 : decode cX7_turn 61 = .ok (.getfield 133, 3) := by decide +kernel
theorem dX7_turn_64 : decode cX7_turn 64 = .ok (.ireturn, 1) := by decide +kernel
theorem dX7_set_0 : decode cX7_set 0 = .ok (.iload_n 1, 1) := by decide +kernel
theorem dX7_set_1 : decode cX7_set 1 = .ok (.iconst 0, 1) := by decide +kernel
theorem dX7_set_2 : decode cX7_set 2 = .ok (.getstatic 136, 3) := by decide +kernel
theorem dX7_set_5 : decode cX7_set 5 = .ok (.arraylength, 1) := by decide +kernel
theorem dX7_set_6 : decode cX7_set 6 = .ok (.iconst 1, 1) := by decide +kernel
theorem dX7_set_7 : decode cX7_set 7 = .ok (.isub, 1) := by decide +kernel
theorem dX7_set_8 : decode cX7_set 8 = .ok (.invokestatic 85, 3) := by decide +kernel
theorem dX7_set_11 : decode cX7_set 11 = .ok (.ifCond .ne 9, 3) := by decide +kernel
theorem dX7_set_14 : decode cX7_set 14 = .ok (.aload_n 0, 1) := by decide +kernel
theorem dX7_set_15 : decode cX7_set 15 = .ok (.iconst 1, 1) := by decide +kernel
theorem dX7_set_16 : decode cX7_set 16 = .ok (.invokevirtual 69, 3) := by decide +kernel
theorem dX7_set_19 : decode cX7_set 19 = .ok (.ireturn, 1) := by decide +kernel
theorem dX7_set_20 : decode cX7_set 20 = .ok (.iload_n 2, 1) := by decide +kernel
theorem dX7_set_21 : decode cX7_set 21 = .ok (.getstatic 139, 3) := by decide +kernel
theorem dX7_set_24 : decode cX7_set 24 = .ok (.iload_n 1, 1) := by decide +kernel
theorem dX7_set_25 : decode cX7_set 25 = .ok (.iaload, 1) := by decide +kernel
theorem dX7_set_26 : decode cX7_set 26 = .ok (.getstatic 136, 3) := by decide +kernel
theorem dX7_set_29 : decode cX7_set 29 = .ok (.iload_n 1, 1) := by decide +kernel
theorem dX7_set_30 : decode cX7_set 30 = .ok (.iaload, 1) := by decide +kernel
theorem dX7_set_31 : decode cX7_set 31 = .ok (.invokestatic 85, 3) := by decide +kernel
theorem dX7_set_34 : decode cX7_set 34 = .ok (.ifCond .ne 9, 3) := by decide +kernel
theorem dX7_set_37 : decode cX7_set 37 = .ok (.aload_n 0, 1) := by decide +kernel
theorem dX7_set_38 : decode cX7_set 38 = .ok (.iconst 1, 1) := by decide +kernel
theorem dX7_set_39 : decode cX7_set 39 = .ok (.invokevirtual 69, 3) := by decide +kernel
theorem dX7_set_42 : decode cX7_set 42 = .ok (.ireturn, 1) := by decide +kernel
theorem dX7_set_43 : decode cX7_set 43 = .ok (.aload_n 0, 1) := by decide +kernel
theorem dX7_set_44 : decode cX7_set 44 = .ok (.getfield 10, 3) := by decide +kernel
theorem dX7_set_47 : decode cX7_set 47 = .ok (.iload_n 1, 1) := by decide +kernel
theorem dX7_set_48 : decode cX7_set 48 = .ok (.iload_n 2, 1) := by decide +kernel
theorem dX7_set_49 : decode cX7_set 49 = .ok (.invokevirtual 142, 3) := by decide +kernel
theorem dX7_set_52 : decode cX7_set 52 = .ok (.ireturn, 1) := by decide +kernel
theorem dX7_feed_0 : decode cX7_feed 0 = .ok (.iload_n 3, 1) := by decide +kernel
theorem dX7_feed_1 : decode cX7_feed 1 = .ok (.iconst 1, 1) := by decide +kernel
theorem dX7_feed_2 : decode cX7_feed 2 = .ok (.bipush 8, 2) := by decide +kernel
theorem dX7_feed_4 : decode cX7_feed 4 = .ok (.invokestatic 85, 3) := by decide +kernel
theorem dX7_feed_7 : decode cX7_feed 7 = .ok (.ifCond .ne 9, 3) := by decide +kernel
theorem dX7_feed_10 : decode cX7_feed 10 = .ok (.aload_n 0, 1) := by decide +kernel
theorem dX7_feed_11 : decode cX7_feed 11 = .ok (.iconst 1, 1) := by decide +kernel
theorem dX7_feed_12 : decode cX7_feed 12 = .ok (.invokevirtual 69, 3) := by decide +kernel
theorem dX7_feed_15 : decode cX7_feed 15 = .ok (.ireturn, 1) := by decide +kernel
theorem dX7_feed_16 : decode cX7_feed 16 = .ok (.aload_n 0, 1) := by decide +kernel
theorem dX7_feed_17 : decode cX7_feed 17 = .ok (.getfield 10, 3) := by decide +kernel
theorem dX7_feed_20 : decode cX7_feed 20 = .ok (.getfield 146, 3) := by decide +kernel
theorem dX7_feed_23 : decode cX7_feed 23 = .ok (.iload_n 3, 1) := by decide +kernel
theorem dX7_feed_24 : decode cX7_feed 24 = .ok (.iadd, 1) := by decide +kernel
theorem dX7_feed_25 : decode cX7_feed 25 = .ok (.bipush 50, 2) := by decide +kernel
theorem dX7_feed_27 : decode cX7_feed 27 = .ok (.if_icmp .le 9, 3) := by decide +kernel
theorem dX7_feed_30 : decode cX7_feed 30 = .ok (.aload_n 0, 1) := by decide +kernel
theorem dX7_feed_31 : decode cX7_feed 31 = .ok (.iconst 4, 1) := by decide +kernel
theorem dX7_feed_32 : decode cX7_feed 32 = .ok (.invokevirtual 69, 3) := by decide +kernel
theorem dX7_feed_35 : decode cX7_feed 35 = .ok (.ireturn, 1) := by decide +kernel
theorem dX7_feed_36 : decode cX7_feed 36 = .ok (.iconst 0, 1) := by decide +kernel
theorem dX7_feed_37 : decode cX7_feed 37 = .ok (.istore 4, 2) := by decide +kernel
theorem dX7_feed_39 : decode cX7_feed 39 = .ok (.iload 4, 2) := by decide +kernel
theorem dX7_feed_41 : decode cX7_feed 41 = .ok (.iload_n 3, 1) := by decide +kernel
theorem dX7_feed_42 : decode cX7_feed 42 = .ok (.if_icmp .ge 49, 3) := by decide +kernel
theorem dX7_feed_45 : decode cX7_feed 45 = .ok (.aload_n 0, 1) := by decide +kernel
theorem dX7_feed_46 : decode cX7_feed 46 = .ok (.getfield 10, 3) := by decide +kernel
theorem dX7_feed_49 : decode cX7_feed 49 = .ok (.getfield 149, 3) := by decide +kernel
theorem dX7_feed_52 : decode cX7_feed 52 = .ok (.aload_n 0, 1) := by decide +kernel
theorem dX7_feed_53 : decode cX7_feed 53 = .ok (.getfield 10, 3) := by decide +kernel
theorem dX7_feed_56 : decode cX7_feed 56 = .ok (.getfield 146, 3) := by decide +kernel
theorem dX7_feed_59 : decode cX7_feed 59 = .ok (.lload_n 1, 1) := by decide +kernel
theorem dX7_feed_60 : decode cX7_feed 60 = .ok (.bipush 8, 2) := by decide +kernel
theorem dX7_feed_62 : decode cX7_feed 62 = .ok (.iload 4, 2) := by decide +kernel
theorem dX7_feed_64 : decode cX7_feed 64 = .ok (.imul, 1) := by decide +kernel
theorem dX7_feed_65 : decode cX7_feed 65 = .ok (.lushr, 1) := by decide +kernel
theorem dX7_feed_66 : decode cX7_feed 66 = .ok (.l2i, 1) := by decide +kernel
theorem dX7_feed_67 : decode cX7_feed 67 = .ok (.sipush 255, 3) := by decide +kernel
theorem dX7_feed_70 : decode cX7_feed 70 = .ok (.iand, 1) := by decide +kernel
theorem dX7_feed_71 : decode cX7_feed 71 = .ok (.iastore, 1) := by decide +kernel
theorem dX7_feed_72 : decode cX7_feed 72 = .ok (.aload_n 0, 1) := by decide +kernel
theorem dX7_feed_73 : decode cX7_feed 73 = .ok (.getfield 10, 3) := by decide +kernel
theorem dX7_feed_76 : decode cX7_feed 76 = .ok (.dup, 1) := by decide +kernel
theorem dX7_feed_77 : decode cX7_feed 77 = .ok (.getfield 146, 3) := by decide +kernel
theorem dX7_feed_80 : decode cX7_feed 80 = .ok (.iconst 1, 1) := by decide +kernel
theorem dX7_feed_81 : decode cX7_feed 81 = .ok (.iadd, 1) := by decide +kernel
theorem dX7_feed_82 : decode cX7_feed 82 = .ok (.putfield 146, 3) := by decide +kernel
theorem dX7_feed_85 : decode cX7_feed 85 = .ok (.iinc 4 1, 3) := by decide +kernel
theorem dX7_feed_88 : decode cX7_feed 88 = .ok (.goto (-49), 3) := by decide +kernel
theorem dX7_feed_91 : decode cX7_feed 91 = .ok (.aload_n 0, 1) := by decide +kernel
theorem dX7_feed_92 : decode cX7_feed 92 = .ok (.getfield 10, 3) := by decide +kernel
theorem dX7_feed_95 : decode cX7_feed 95 = .ok (.getfield 146, 3) := by decide +kernel
theorem dX7_feed_98 : decode cX7_feed 98 = .ok (.ireturn, 1) := by decide +kernel
theorem dX7_text_0 : decode cX7_text 0 = .ok (.iload_n 1, 1) := by decide +kernel
theorem dX7_text_1 : decode cX7_text 1 = .ok (.invokestatic 152, 3) := by decide +kernel
theorem dX7_text_4 : decode cX7_text 4 = .ok (.ifCond .ne 9, 3) := by decide +kernel
theorem dX7_text_7 : decode cX7_text 7 = .ok (.aload_n 0, 1) := by decide +kernel
theorem dX7_text_8 : decode cX7_text 8 = .ok (.iconst 1, 1) := by decide +kernel
theorem dX7_text_9 : decode cX7_text 9 = .ok (.invokevirtual 69, 3) := by decide +kernel
theorem dX7_text_12 : decode cX7_text 12 = .ok (.ireturn, 1) := by decide +kernel
theorem dX7_text_13 : decode cX7_text 13 = .ok (.aload_n 0, 1) := by decide +kernel
theorem dX7_text_14 : decode cX7_text 14 = .ok (.getfield 29, 3) := by decide +kernel
theorem dX7_text_17 : decode cX7_text 17 = .ok (.aload_n 0, 1) := by decide +kernel
theorem dX7_text_18 : decode cX7_text 18 = .ok (.getfield 10, 3) := by decide +kernel
theorem dX7_text_21 : decode cX7_text 21 = .ok (.getfield 149, 3) := by decide +kernel
theorem dX7_text_24 : decode cX7_text 24 = .ok (.aload_n 0, 1) := by decide +kernel
theorem dX7_text_25 : decode cX7_text 25 = .ok (.getfield 10, 3) := by decide +kernel
theorem dX7_text_28 : decode cX7_text 28 = .ok (.getfield 146, 3) := by decide +kernel
theorem dX7_text_31 : decode cX7_text 31 = .ok (.iload_n 1, 1) := by decide +kernel
theorem dX7_text_32 : decode cX7_text 32 = .ok (.ifCond .ne 8, 3) := by decide +kernel
theorem dX7_text_35 : decode cX7_text 35 = .ok (.ldc 155, 2) := by decide +kernel
theorem dX7_text_37 : decode cX7_text 37 = .ok (.goto 5, 3) := by decide +kernel
theorem dX7_text_40 : decode cX7_text 40 = .ok (.ldc 157, 2) := by decide +kernel
theorem dX7_text_42 : decode cX7_text 42 = .ok (.invokevirtual 159, 3) := by decide +kernel
theorem dX7_text_45 : decode cX7_text 45 = .ok (.istore_n 2, 1) := by decide +kernel
theorem dX7_text_46 : decode cX7_text 46 = .ok (.aload_n 0, 1) := by decide +kernel
theorem dX7_text_47 : decode cX7_text 47 = .ok (.getfield 10, 3) := by decide +kernel
theorem dX7_text_50 : decode cX7_text 50 = .ok (.iconst 0, 1) := by decide +kernel
theorem dX7_text_51 : decode cX7_text 51 = .ok (.putfield 146, 3) := by decide +kernel
theorem dX7_text_54 : decode cX7_text 54 = .ok (.iload_n 2, 1) := by decide +kernel
theorem dX7_text_55 : decode cX7_text 55 = .ok (.ifCond .lt 8, 3) := by decide +kernel
theorem dX7_text_58 : decode cX7_text 58 = .ok (.bipush (-10), 2) := by decide +kernel
theorem dX7_text_60 : decode cX7_text 60 = .ok (.iload_n 2, 1) := by decide +kernel
theorem dX7_text_61 : decode cX7_text 61 = .ok (.isub, 1) := by decide +kernel
theorem dX7_text_62 : decode cX7_text 62 = .ok (.ireturn, 1) := by decide +kernel
theorem dX7_text_63 : decode cX7_text 63 = .ok (.iload_n 1, 1) := by decide +kernel
theorem dX7_text_64 : decode cX7_text 64 = .ok (.ifCond .ne 13, 3) := by decide +kernel
theorem dX7_text_67 : decode cX7_text 67 = .ok (.aload_n 0, 1) := by decide +kernel
theorem dX7_text_68 : decode cX7_text 68 = .ok (.getfield 10, 3) := by decide +kernel
theorem dX7_text_71 : decode cX7_text 71 = .ok (.getfield 163, 3) := by decide +kernel
theorem dX7_text_74 : decode cX7_text 74 = .ok (.goto 10, 3) := by decide +kernel
theorem dX7_text_77 : decode cX7_text 77 = .ok (.aload_n 0, 1) := by decide +kernel
theorem dX7_text_78 : decode cX7_text 78 = .ok (.getfield 10, 3) := by decide +kernel
theorem dX7_text_81 : decode cX7_text 81 = .ok (.getfield 167, 3) := by decide +kernel
theorem dX7_text_84 : decode cX7_text 84 = .ok (.astore_n 3, 1) := by decide +kernel
theorem dX7_text_85 : decode cX7_text 85 = .ok (.aload_n 3, 1) := by decide +kernel
theorem dX7_text_86 : decode cX7_text 86 = .ok (.aload_n 0, 1) := by decide +kernel
theorem dX7_text_87 : decode cX7_text 87 = .ok (.getfield 29, 3) := by decide +kernel
theorem dX7_text_90 : decode cX7_text 90 = .ok (.getfield 170, 3) := by decide +kernel
theorem dX7_text_93 : decode cX7_text 93 = .ok (.invokevirtual 173, 3) := by decide +kernel
theorem dX7_text_96 : decode cX7_text 96 = .ok (.iconst 1, 1) := by decide +kernel
theorem dX7_text_97 : decode cX7_text 97 = .ok (.ireturn, 1) := by decide +kernel
theorem dX7_law_0 : decode cX7_law 0 = .ok (.iload_n 1, 1) := by decide +kernel
theorem dX7_law_1 : decode cX7_law 1 = .ok (.invokestatic 152, 3) := by decide +kernel
theorem dX7_law_4 : decode cX7_law 4 = .ok (.ifCond .ne 9, 3) := by decide +kernel
theorem dX7_law_7 : decode cX7_law 7 = .ok (.aload_n 0, 1) := by decide +kernel
theorem dX7_law_8 : decode cX7_law 8 = .ok (.iconst 1, 1) := by decide +kernel
theorem dX7_law_9 : decode cX7_law 9 = .ok (.invokevirtual 69, 3) := by decide +kernel
theorem dX7_law_12 : decode cX7_law 12 = .ok (.ireturn, 1) := by decide +kernel
theorem dX7_law_13 : decode cX7_law 13 = .ok (.iload_n 1, 1) := by decide +kernel
theorem dX7_law_14 : decode cX7_law 14 = .ok (.ifCond .ne 19, 3) := by decide +kernel
theorem dX7_law_17 : decode cX7_law 17 = .ok (.aload_n 0, 1) := by decide +kernel
theorem dX7_law_18 : decode cX7_law 18 = .ok (.getfield 10, 3) := by decide +kernel
theorem dX7_law_21 : decode cX7_law 21 = .ok (.iload_n 2, 1) := by decide +kernel
theorem dX7_law_22 : decode cX7_law 22 = .ok (.iload_n 3, 1) := by decide +kernel
theorem dX7_law_23 : decode cX7_law 23 = .ok (.iload 4, 2) := by decide +kernel
theorem dX7_law_25 : decode cX7_law 25 = .ok (.iload 5, 2) := by decide +kernel
theorem dX7_law_27 : decode cX7_law 27 = .ok (.invokevirtual 179, 3) := by decide +kernel
theorem dX7_law_30 : decode cX7_law 30 = .ok (.goto 16, 3) := by decide +kernel
theorem dX7_law_33 : decode cX7_law 33 = .ok (.aload_n 0, 1) := by decide +kernel
theorem dX7_law_34 : decode cX7_law 34 = .ok (.getfield 10, 3) := by decide +kernel
theorem dX7_law_37 : decode cX7_law 37 = .ok (.iload_n 2, 1) := by decide +kernel
theorem dX7_law_38 : decode cX7_law 38 = .ok (.iload_n 3, 1) := by decide +kernel
theorem dX7_law_39 : decode cX7_law 39 = .ok (.iload 4, 2) := by decide +kernel
theorem dX7_law_41 : decode cX7_law 41 = .ok (.iload 5, 2) := by decide +kernel
theorem dX7_law_43 : decode cX7_law 43 = .ok (.invokevirtual 183, 3) := by decide +kernel
theorem dX7_law_46 : decode cX7_law 46 = .ok (.ireturn, 1) := by decide +kernel
theorem dX7_visit_0 : decode cX7_visit 0 = .ok (.aload_n 0, 1) := by decide +kernel
theorem dX7_visit_1 : decode cX7_visit 1 = .ok (.getfield 10, 3) := by decide +kernel
theorem dX7_visit_4 : decode cX7_visit 4 = .ok (.invokevirtual 186, 3) := by decide +kernel
theorem dX7_visit_7 : decode cX7_visit 7 = .ok (.ireturn, 1) := by decide +kernel
theorem dX7_days_0 : decode cX7_days 0 = .ok (.aload_n 0, 1) := by decide +kernel
theorem dX7_days_1 : decode cX7_days 1 = .ok (.iload_n 1, 1) := by decide +kernel
theorem dX7_days_2 : decode cX7_days 2 = .ok (.iconst 0, 1) := by decide +kernel
theorem dX7_days_3 : decode cX7_days 3 = .ok (.invokevirtual 190, 3) := by decide +kernel
theorem dX7_days_6 : decode cX7_days 6 = .ok (.ireturn, 1) := by decide +kernel
theorem dX7_loose_0 : decode cX7_loose 0 = .ok (.aload_n 0, 1) := by decide +kernel
theorem dX7_loose_1 : decode cX7_loose 1 = .ok (.iload_n 1, 1) := by decide +kernel
theorem dX7_loose_2 : decode cX7_loose 2 = .ok (.iconst 1, 1) := by decide +kernel
theorem dX7_loose_3 : decode cX7_loose 3 = .ok (.invokevirtual 190, 3) := by decide +kernel
theorem dX7_loose_6 : decode cX7_loose 6 = .ok (.ireturn, 1) := by decide +kernel
theorem dX7_then_0 : decode cX7_then 0 = .ok (.iload_n 1, 1) := by decide +kernel
theorem dX7_then_1 : decode cX7_then 1 = .ok (.invokestatic 194, 3) := by decide +kernel
theorem dX7_then_4 : decode cX7_then 4 = .ok (.ifCond .eq 21, 3) := by decide +kernel
theorem dX7_then_7 : decode cX7_then 7 = .ok (.aload_n 0, 1) := by decide +kernel
theorem dX7_then_8 : decode cX7_then 8 = .ok (.iload_n 2, 1) := by decide +kernel
theorem dX7_then_9 : decode cX7_then 9 = .ok (.invokevirtual 81, 3) := by decide +kernel
theorem dX7_then_12 : decode cX7_then 12 = .ok (.ifCond .eq 13, 3) := by decide +kernel
theorem dX7_then_15 : decode cX7_then 15 = .ok (.iload_n 3, 1) := by decide +kernel
theorem dX7_then_16 : decode cX7_then 16 = .ok (.iconst 0, 1) := by decide +kernel
theorem dX7_then_17 : decode cX7_then 17 = .ok (.bipush 9, 2) := by decide +kernel
theorem dX7_then_19 : decode cX7_then 19 = .ok (.invokestatic 85, 3) := by decide +kernel
theorem dX7_then_22 : decode cX7_then 22 = .ok (.ifCond .ne 9, 3) := by decide +kernel
theorem dX7_then_25 : decode cX7_then 25 = .ok (.aload_n 0, 1) := by decide +kernel
theorem dX7_then_26 : decode cX7_then 26 = .ok (.iconst 1, 1) := by decide +kernel
theorem dX7_then_27 : decode cX7_then 27 = .ok (.invokevirtual 69, 3) := by decide +kernel
theorem dX7_then_30 : decode cX7_then 30 = .ok (.ireturn, 1) := by decide +kernel
theorem dX7_then_31 : decode cX7_then 31 = .ok (.aload_n 0, 1) := by decide +kernel
theorem dX7_then_32 : decode cX7_then 32 = .ok (.iload_n 1, 1) := by decide +kernel
theorem dX7_then_33 : decode cX7_then 33 = .ok (.invokevirtual 197, 3) := by decide +kernel
theorem dX7_then_36 : decode cX7_then 36 = .ok (.aload_n 0, 1) := by decide +kernel
theorem dX7_then_37 : decode cX7_then 37 = .ok (.getfield 16, 3) := by decide +kernel
theorem dX7_then_40 : decode cX7_then 40 = .ok (.aload_n 0, 1) := by decide +kernel
theorem dX7_then_41 : decode cX7_then 41 = .ok (.getfield 16, 3) := by decide +kernel
theorem dX7_then_44 : decode cX7_then 44 = .ok (.getfield 88, 3) := by decide +kernel
theorem dX7_then_47 : decode cX7_then 47 = .ok (.iload_n 2, 1) := by decide +kernel
theorem dX7_then_48 : decode cX7_then 48 = .ok (.aaload, 1) := by decide +kernel
theorem dX7_then_49 : decode cX7_then 49 = .ok (.iload_n 3, 1) := by decide +kernel
theorem dX7_then_50 : decode cX7_then 50 = .ok (.invokevirtual 92, 3) := by decide +kernel
theorem dX7_then_53 : decode cX7_then 53 = .ok (.ireturn, 1) := by decide +kernel
theorem dX7_thenPurse_0 : decode cX7_thenPurse 0 = .ok (.iload_n 1, 1) := by decide +kernel
theorem dX7_thenPurse_1 : decode cX7_thenPurse 1 = .ok (.invokestatic 194, 3) := by decide +kernel
theorem dX7_thenPurse_4 : decode cX7_thenPurse 4 = .ok (.ifCond .ne 9, 3) := by decide +kernel
theorem dX7_thenPurse_7 : decode cX7_thenPurse 7 = .ok (.aload_n 0, 1) := by decide +kernel
theorem dX7_thenPurse_8 : decode cX7_thenPurse 8 = .ok (.iconst 1, 1) := by decide +kernel
theorem dX7_thenPurse_9 : decode cX7_thenPurse 9 = .ok (.invokevirtual 69, 3) := by decide +kernel
theorem dX7_thenPurse_12 : decode cX7_thenPurse 12 = .ok (.ireturn, 1) := by decide +kernel
theorem dX7_thenPurse_13 : decode cX7_thenPurse 13 = .ok (.aload_n 0, 1) := by decide +kernel
theorem dX7_thenPurse_14 : decode cX7_thenPurse 14 = .ok (.iload_n 1, 1) := by decide +kernel
theorem dX7_thenPurse_15 : decode cX7_thenPurse 15 = .ok (.invokevirtual 197, 3) := by decide +kernel
theorem dX7_thenPurse_18 : decode cX7_thenPurse 18 = .ok (.aload_n 0, 1) := by decide +kernel
theorem dX7_thenPurse_19 : decode cX7_thenPurse 19 = .ok (.getfield 16, 3) := by decide +kernel
theorem dX7_thenPurse_22 : decode cX7_thenPurse 22 = .ok (.getfield 200, 3) := by decide +kernel
theorem dX7_thenPurse_25 : decode cX7_thenPurse 25 = .ok (.ireturn, 1) := by decide +kernel
theorem dX7_often_0 : decode cX7_often 0 = .ok (.iload_n 1, 1) := by decide +kernel
theorem dX7_often_1 : decode cX7_often 1 = .ok (.invokestatic 194, 3) := by decide +kernel
theorem dX7_often_4 : decode cX7_often 4 = .ok (.ifCond .ne 9, 3) := by decide +kernel
theorem dX7_often_7 : decode cX7_often 7 = .ok (.aload_n 0, 1) := by decide +kernel
theorem dX7_often_8 : decode cX7_often 8 = .ok (.iconst 1, 1) := by decide +kernel
theorem dX7_often_9 : decode cX7_often 9 = .ok (.invokevirtual 69, 3) := by decide +kernel
theorem dX7_often_12 : decode cX7_often 12 = .ok (.ireturn, 1) := by decide +kernel
theorem dX7_often_13 : decode cX7_often 13 = .ok (.aload_n 0, 1) := by decide +kernel
theorem dX7_often_14 : decode cX7_often 14 = .ok (.bipush 6, 2) := by decide +kernel
theorem dX7_often_16 : decode cX7_often 16 = .ok (.iload_n 1, 1) := by decide +kernel
theorem dX7_often_17 : decode cX7_often 17 = .ok (.invokevirtual 203, 3) := by decide +kernel
theorem dX7_often_20 : decode cX7_often 20 = .ok (.ireturn, 1) := by decide +kernel
theorem dX7_dear_0 : decode cX7_dear 0 = .ok (.iload_n 1, 1) := by decide +kernel
theorem dX7_dear_1 : decode cX7_dear 1 = .ok (.invokestatic 194, 3) := by decide +kernel
theorem dX7_dear_4 : decode cX7_dear 4 = .ok (.ifCond .ne 9, 3) := by decide +kernel
theorem dX7_dear_7 : decode cX7_dear 7 = .ok (.aload_n 0, 1) := by decide +kernel
theorem dX7_dear_8 : decode cX7_dear 8 = .ok (.iconst 1, 1) := by decide +kernel
theorem dX7_dear_9 : decode cX7_dear 9 = .ok (.invokevirtual 69, 3) := by decide +kernel
theorem dX7_dear_12 : decode cX7_dear 12 = .ok (.ireturn, 1) := by decide +kernel
theorem dX7_dear_13 : decode cX7_dear 13 = .ok (.aload_n 0, 1) := by decide +kernel
theorem dX7_dear_14 : decode cX7_dear 14 = .ok (.iconst 5, 1) := by decide +kernel
theorem dX7_dear_15 : decode cX7_dear 15 = .ok (.iload_n 1, 1) := by decide +kernel
theorem dX7_dear_16 : decode cX7_dear 16 = .ok (.invokevirtual 203, 3) := by decide +kernel
theorem dX7_dear_19 : decode cX7_dear 19 = .ok (.ireturn, 1) := by decide +kernel
theorem dX7_still_0 : decode cX7_still 0 = .ok (.aload_n 0, 1) := by decide +kernel
theorem dX7_still_1 : decode cX7_still 1 = .ok (.iload_n 1, 1) := by decide +kernel
theorem dX7_still_2 : decode cX7_still 2 = .ok (.invokevirtual 81, 3) := by decide +kernel
theorem dX7_still_5 : decode cX7_still 5 = .ok (.ifCond .eq 10, 3) := by decide +kernel
theorem dX7_still_8 : decode cX7_still 8 = .ok (.iload_n 2, 1) := by decide +kernel
theorem dX7_still_9 : decode cX7_still 9 = .ok (.invokestatic 194, 3) := by decide +kernel
theorem dX7_still_12 : decode cX7_still 12 = .ok (.ifCond .ne 9, 3) := by decide +kernel
theorem dX7_still_15 : decode cX7_still 15 = .ok (.aload_n 0, 1) := by decide +kernel
theorem dX7_still_16 : decode cX7_still 16 = .ok (.iconst 1, 1) := by decide +kernel
theorem dX7_still_17 : decode cX7_still 17 = .ok (.invokevirtual 69, 3) := by decide +kernel
theorem dX7_still_20 : decode cX7_still 20 = .ok (.ireturn, 1) := by decide +kernel
theorem dX7_still_21 : decode cX7_still 21 = .ok (.aload_n 0, 1) := by decide +kernel
theorem dX7_still_22 : decode cX7_still 22 = .ok (.getfield 16, 3) := by decide +kernel
theorem dX7_still_25 : decode cX7_still 25 = .ok (.aload_n 0, 1) := by decide +kernel
theorem dX7_still_26 : decode cX7_still 26 = .ok (.getfield 10, 3) := by decide +kernel
theorem dX7_still_29 : decode cX7_still 29 = .ok (.invokevirtual 206, 3) := by decide +kernel
theorem dX7_still_32 : decode cX7_still 32 = .ok (.iconst 0, 1) := by decide +kernel
theorem dX7_still_33 : decode cX7_still 33 = .ok (.istore_n 3, 1) := by decide +kernel
theorem dX7_still_34 : decode cX7_still 34 = .ok (.iload_n 3, 1) := by decide +kernel
theorem dX7_still_35 : decode cX7_still 35 = .ok (.iload_n 2, 1) := by decide +kernel
theorem dX7_still_36 : decode cX7_still 36 = .ok (.if_icmp .gt 41, 3) := by decide +kernel
theorem dX7_still_39 : decode cX7_still 39 = .ok (.iload_n 3, 1) := by decide +kernel
theorem dX7_still_40 : decode cX7_still 40 = .ok (.ifCond .le 12, 3) := by decide +kernel
theorem dX7_still_43 : decode cX7_still 43 = .ok (.aload_n 0, 1) := by decide +kernel
theorem dX7_still_44 : decode cX7_still 44 = .ok (.getfield 16, 3) := by decide +kernel
theorem dX7_still_47 : decode cX7_still 47 = .ok (.iconst 1, 1) := by decide +kernel
theorem dX7_still_48 : decode cX7_still 48 = .ok (.iconst 0, 1) := by decide +kernel
theorem dX7_still_49 : decode cX7_still 49 = .ok (.invokevirtual 209, 3) := by decide +kernel
theorem dX7_still_52 : decode cX7_still 52 = .ok (.aload_n 0, 1) := by decide +kernel
theorem dX7_still_53 : decode cX7_still 53 = .ok (.getfield 16, 3) := by decide +kernel
theorem dX7_still_56 : decode cX7_still 56 = .ok (.getfield 88, 3) := by decide +kernel
theorem dX7_still_59 : decode cX7_still 59 = .ok (.iload_n 1, 1) := by decide +kernel
theorem dX7_still_60 : decode cX7_still 60 = .ok (.aaload, 1) := by decide +kernel
theorem dX7_still_61 : decode cX7_still 61 = .ok (.getfield 106, 3) := by decide +kernel
theorem dX7_still_64 : decode cX7_still 64 = .ok (.bipush 6, 2) := by decide +kernel
theorem dX7_still_66 : decode cX7_still 66 = .ok (.if_icmp .ne 5, 3) := by decide +kernel
theorem dX7_still_69 : decode cX7_still 69 = .ok (.iload_n 3, 1) := by decide +kernel
theorem dX7_still_70 : decode cX7_still 70 = .ok (.ireturn, 1) := by decide +kernel
theorem dX7_still_71 : decode cX7_still 71 = .ok (.iinc 3 1, 3) := by decide +kernel
theorem dX7_still_74 : decode cX7_still 74 = .ok (.goto (-40), 3) := by decide +kernel
theorem dX7_still_77 : decode cX7_still 77 = .ok (.aload_n 0, 1) := by decide +kernel
theorem dX7_still_78 : decode cX7_still 78 = .ok (.iconst 2, 1) := by decide +kernel
theorem dX7_still_79 : decode cX7_still 79 = .ok (.invokevirtual 69, 3) := by decide +kernel
theorem dX7_still_82 : decode cX7_still 82 = .ok (.ireturn, 1) := by decide +kernel
theorem dX7_least_0 : decode cX7_least 0 = .ok (.aload_n 0, 1) := by decide +kernel
theorem dX7_least_1 : decode cX7_least 1 = .ok (.iload_n 1, 1) := by decide +kernel
theorem dX7_least_2 : decode cX7_least 2 = .ok (.invokevirtual 81, 3) := by decide +kernel
theorem dX7_least_5 : decode cX7_least 5 = .ok (.ifCond .eq 22, 3) := by decide +kernel
theorem dX7_least_8 : decode cX7_least 8 = .ok (.iload_n 2, 1) := by decide +kernel
theorem dX7_least_9 : decode cX7_least 9 = .ok (.iconst 0, 1) := by decide +kernel
theorem dX7_least_10 : decode cX7_least 10 = .ok (.bipush 99, 2) := by decide +kernel
theorem dX7_least_12 : decode cX7_least 12 = .ok (.invokestatic 85, 3) := by decide +kernel
theorem dX7_least_15 : decode cX7_least 15 = .ok (.ifCond .eq 12, 3) := by decide +kernel
theorem dX7_least_18 : decode cX7_least 18 = .ok (.iload_n 3, 1) := by decide +kernel
theorem dX7_least_19 : decode cX7_least 19 = .ok (.iconst (-1), 1) := by decide +kernel
theorem dX7_least_20 : decode cX7_least 20 = .ok (.iconst 3, 1) := by decide +kernel
theorem dX7_least_21 : decode cX7_least 21 = .ok (.invokestatic 85, 3) := by decide +kernel
theorem dX7_least_24 : decode cX7_least 24 = .ok (.ifCond .ne 9, 3) := by decide +kernel
theorem dX7_least_27 : decode cX7_least 27 = .ok (.aload_n 0, 1) := by decide +kernel
theorem dX7_least_28 : decode cX7_least 28 = .ok (.iconst 1, 1) := by decide +kernel
theorem dX7_least_29 : decode cX7_least 29 = .ok (.invokevirtual 69, 3) := by decide +kernel
theorem dX7_least_32 : decode cX7_least 32 = .ok (.ireturn, 1) := by decide +kernel
theorem dX7_least_33 : decode cX7_least 33 = .ok (.aload_n 0, 1) := by decide +kernel
theorem dX7_least_34 : decode cX7_least 34 = .ok (.aload_n 0, 1) := by decide +kernel
theorem dX7_least_35 : decode cX7_least 35 = .ok (.getfield 10, 3) := by decide +kernel
theorem dX7_least_38 : decode cX7_least 38 = .ok (.getfield 88, 3) := by decide +kernel
theorem dX7_least_41 : decode cX7_least 41 = .ok (.iload_n 1, 1) := by decide +kernel
theorem dX7_least_42 : decode cX7_least 42 = .ok (.aaload, 1) := by decide +kernel
theorem dX7_least_43 : decode cX7_least 43 = .ok (.iload_n 2, 1) := by decide +kernel
theorem dX7_least_44 : decode cX7_least 44 = .ok (.invokevirtual 213, 3) := by decide +kernel
theorem dX7_least_47 : decode cX7_least 47 = .ok (.istore 4, 2) := by decide +kernel
theorem dX7_least_49 : decode cX7_least 49 = .ok (.iload 4, 2) := by decide +kernel
theorem dX7_least_51 : decode cX7_least 51 = .ok (.ifCond .ge 9, 3) := by decide +kernel
theorem dX7_least_54 : decode cX7_least 54 = .ok (.aload_n 0, 1) := by decide +kernel
theorem dX7_least_55 : decode cX7_least 55 = .ok (.iconst 2, 1) := by decide +kernel
theorem dX7_least_56 : decode cX7_least 56 = .ok (.invokevirtual 69, 3) := by decide +kernel
theorem dX7_least_59 : decode cX7_least 59 = .ok (.ireturn, 1) := by decide +kernel
theorem dX7_least_60 : decode cX7_least 60 = .ok (.iload_n 3, 1) := by decide +kernel
theorem dX7_least_61 : decode cX7_least 61 = .ok (.ifCond .ge 8, 3) := by decide +kernel
theorem dX7_least_64 : decode cX7_least 64 = .ok (.iload 4, 2) := by decide +kernel
theorem dX7_least_66 : decode cX7_least 66 = .ok (.goto 12, 3) := by decide +kernel
theorem dX7_least_69 : decode cX7_least 69 = .ok (.aload_n 0, 1) := by decide +kernel
theorem dX7_least_70 : decode cX7_least 70 = .ok (.getfield 43, 3) := by decide +kernel
theorem dX7_least_73 : decode cX7_least 73 = .ok (.getfield 216, 3) := by decide +kernel
theorem dX7_least_76 : decode cX7_least 76 = .ok (.iload_n 3, 1) := by decide +kernel
theorem dX7_least_77 : decode cX7_least 77 = .ok (.iaload, 1) := by decide +kernel
theorem dX7_least_78 : decode cX7_least 78 = .ok (.ireturn, 1) := by decide +kernel
theorem dX7_line_0 : decode cX7_line 0 = .ok (.aload_n 0, 1) := by decide +kernel
theorem dX7_line_1 : decode cX7_line 1 = .ok (.iload_n 1, 1) := by decide +kernel
theorem dX7_line_2 : decode cX7_line 2 = .ok (.invokevirtual 81, 3) := by decide +kernel
theorem dX7_line_5 : decode cX7_line 5 = .ok (.ifCond .eq 10, 3) := by decide +kernel
theorem dX7_line_8 : decode cX7_line 8 = .ok (.iload_n 2, 1) := by decide +kernel
theorem dX7_line_9 : decode cX7_line 9 = .ok (.invokestatic 120, 3) := by decide +kernel
theorem dX7_line_12 : decode cX7_line 12 = .ok (.ifCond .ne 9, 3) := by decide +kernel
theorem dX7_line_15 : decode cX7_line 15 = .ok (.aload_n 0, 1) := by decide +kernel
theorem dX7_line_16 : decode cX7_line 16 = .ok (.iconst 1, 1) := by decide +kernel
theorem dX7_line_17 : decode cX7_line 17 = .ok (.invokevirtual 69, 3) := by decide +kernel
theorem dX7_line_20 : decode cX7_line 20 = .ok (.ireturn, 1) := by decide +kernel
theorem dX7_line_21 : decode cX7_line 21 = .ok (.aload_n 0, 1) := by decide +kernel
theorem dX7_line_22 : decode cX7_line 22 = .ok (.getfield 36, 3) := by decide +kernel
theorem dX7_line_25 : decode cX7_line 25 = .ok (.aload_n 0, 1) := by decide +kernel
theorem dX7_line_26 : decode cX7_line 26 = .ok (.getfield 10, 3) := by decide +kernel
theorem dX7_line_29 : decode cX7_line 29 = .ok (.getfield 88, 3) := by decide +kernel
theorem dX7_line_32 : decode cX7_line 32 = .ok (.iload_n 1, 1) := by decide +kernel
theorem dX7_line_33 : decode cX7_line 33 = .ok (.aaload, 1) := by decide +kernel
theorem dX7_line_34 : decode cX7_line 34 = .ok (.invokevirtual 219, 3) := by decide +kernel
theorem dX7_line_37 : decode cX7_line 37 = .ok (.iconst 0, 1) := by decide +kernel
theorem dX7_line_38 : decode cX7_line 38 = .ok (.istore_n 3, 1) := by decide +kernel
theorem dX7_line_39 : decode cX7_line 39 = .ok (.iload_n 3, 1) := by decide +kernel
theorem dX7_line_40 : decode cX7_line 40 = .ok (.bipush 60, 2) := by decide +kernel
theorem dX7_line_42 : decode cX7_line 42 = .ok (.if_icmp .ge 48, 3) := by decide +kernel
theorem dX7_line_45 : decode cX7_line 45 = .ok (.aload_n 0, 1) := by decide +kernel
theorem dX7_line_46 : decode cX7_line 46 = .ok (.getfield 36, 3) := by decide +kernel
theorem dX7_line_49 : decode cX7_line 49 = .ok (.iload_n 2, 1) := by decide +kernel
theorem dX7_line_50 : decode cX7_line 50 = .ok (.aload_n 0, 1) := by decide +kernel
theorem dX7_line_51 : decode cX7_line 51 = .ok (.getfield 10, 3) := by decide +kernel
theorem dX7_line_54 : decode cX7_line 54 = .ok (.getfield 126, 3) := by decide +kernel
theorem dX7_line_57 : decode cX7_line 57 = .ok (.invokevirtual 222, 3) := by decide +kernel
theorem dX7_line_60 : decode cX7_line 60 = .ok (.aload_n 0, 1) := by decide +kernel
theorem dX7_line_61 : decode cX7_line 61 = .ok (.getfield 36, 3) := by decide +kernel
theorem dX7_line_64 : decode cX7_line 64 = .ok (.getfield 225, 3) := by decide +kernel
theorem dX7_line_67 : decode cX7_line 67 = .ok (.ifCond .eq 15, 3) := by decide +kernel
theorem dX7_line_70 : decode cX7_line 70 = .ok (.aload_n 0, 1) := by decide +kernel
theorem dX7_line_71 : decode cX7_line 71 = .ok (.getfield 36, 3) := by decide +kernel
theorem dX7_line_74 : decode cX7_line 74 = .ok (.getfield 228, 3) := by decide +kernel
theorem dX7_line_77 : decode cX7_line 77 = .ok (.bipush 60, 2) := by decide +kernel
theorem dX7_line_79 : decode cX7_line 79 = .ok (.if_icmp .lt 5, 3) := by decide +kernel
theorem dX7_line_82 : decode cX7_line 82 = .ok (.iload_n 3, 1) := by decide +kernel
theorem dX7_line_83 : decode cX7_line 83 = .ok (.ireturn, 1) := by decide +kernel
theorem dX7_line_84 : decode cX7_line 84 = .ok (.iinc 3 1, 3) := by decide +kernel
theorem dX7_line_87 : decode cX7_line 87 = .ok (.goto (-48), 3) := by decide +kernel
theorem dX7_line_90 : decode cX7_line 90 = .ok (.bipush 60, 2) := by decide +kernel
theorem dX7_line_92 : decode cX7_line 92 = .ok (.ireturn, 1) := by decide +kernel
theorem dX7_hand_0 : decode cX7_hand 0 = .ok (.aload_n 0, 1) := by decide +kernel
theorem dX7_hand_1 : decode cX7_hand 1 = .ok (.iload_n 1, 1) := by decide +kernel
theorem dX7_hand_2 : decode cX7_hand 2 = .ok (.invokevirtual 81, 3) := by decide +kernel
theorem dX7_hand_5 : decode cX7_hand 5 = .ok (.ifCond .eq 13, 3) := by decide +kernel
theorem dX7_hand_8 : decode cX7_hand 8 = .ok (.iload_n 2, 1) := by decide +kernel
theorem dX7_hand_9 : decode cX7_hand 9 = .ok (.iconst 0, 1) := by decide +kernel
theorem dX7_hand_10 : decode cX7_hand 10 = .ok (.bipush 99, 2) := by decide +kernel
theorem dX7_hand_12 : decode cX7_hand 12 = .ok (.invokestatic 85, 3) := by decide +kernel
theorem dX7_hand_15 : decode cX7_hand 15 = .ok (.ifCond .ne 9, 3) := by decide +kernel
theorem dX7_hand_18 : decode cX7_hand 18 = .ok (.aload_n 0, 1) := by decide +kernel
theorem dX7_hand_19 : decode cX7_hand 19 = .ok (.iconst 1, 1) := by decide +kernel
theorem dX7_hand_20 : decode cX7_hand 20 = .ok (.invokevirtual 69, 3) := by decide +kernel
theorem dX7_hand_23 : decode cX7_hand 23 = .ok (.ireturn, 1) := by decide +kernel
theorem dX7_hand_24 : decode cX7_hand 24 = .ok (.iload_n 3, 1) := by decide +kernel
theorem dX7_hand_25 : decode cX7_hand 25 = .ok (.iconst 0, 1) := by decide +kernel
theorem dX7_hand_26 : decode cX7_hand 26 = .ok (.sipush 999, 3) := by decide +kernel
theorem dX7_hand_29 : decode cX7_hand 29 = .ok (.invokestatic 85, 3) := by decide +kernel
theorem dX7_hand_32 : decode cX7_hand 32 = .ok (.ifCond .eq 13, 3) := by decide +kernel
theorem dX7_hand_35 : decode cX7_hand 35 = .ok (.iload 4, 2) := by decide +kernel
theorem dX7_hand_37 : decode cX7_hand 37 = .ok (.iconst (-1), 1) := by decide +kernel
theorem dX7_hand_38 : decode cX7_hand 38 = .ok (.iconst 3, 1) := by decide +kernel
theorem dX7_hand_39 : decode cX7_hand 39 = .ok (.invokestatic 85, 3) := by decide +kernel
theorem dX7_hand_42 : decode cX7_hand 42 = .ok (.ifCond .ne 9, 3) := by decide +kernel
theorem dX7_hand_45 : decode cX7_hand 45 = .ok (.aload_n 0, 1) := by decide +kernel
theorem dX7_hand_46 : decode cX7_hand 46 = .ok (.iconst 1, 1) := by decide +kernel
theorem dX7_hand_47 : decode cX7_hand 47 = .ok (.invokevirtual 69, 3) := by decide +kernel
theorem dX7_hand_50 : decode cX7_hand 50 = .ok (.ireturn, 1) := by decide +kernel
theorem dX7_hand_51 : decode cX7_hand 51 = .ok (.aload_n 0, 1) := by decide +kernel
theorem dX7_hand_52 : decode cX7_hand 52 = .ok (.aload_n 0, 1) := by decide +kernel
theorem dX7_hand_53 : decode cX7_hand 53 = .ok (.getfield 10, 3) := by decide +kernel
theorem dX7_hand_56 : decode cX7_hand 56 = .ok (.getfield 88, 3) := by decide +kernel
theorem dX7_hand_59 : decode cX7_hand 59 = .ok (.iload_n 1, 1) := by decide +kernel
theorem dX7_hand_60 : decode cX7_hand 60 = .ok (.aaload, 1) := by decide +kernel
theorem dX7_hand_61 : decode cX7_hand 61 = .ok (.iload_n 2, 1) := by decide +kernel
theorem dX7_hand_62 : decode cX7_hand 62 = .ok (.iload_n 3, 1) := by decide +kernel
theorem dX7_hand_63 : decode cX7_hand 63 = .ok (.invokevirtual 231, 3) := by decide +kernel
theorem dX7_hand_66 : decode cX7_hand 66 = .ok (.istore 5, 2) := by decide +kernel
theorem dX7_hand_68 : decode cX7_hand 68 = .ok (.iload 4, 2) := by decide +kernel
theorem dX7_hand_70 : decode cX7_hand 70 = .ok (.ifCond .ge 6, 3) := by decide +kernel
theorem dX7_hand_73 : decode cX7_hand 73 = .ok (.iload 5, 2) := by decide +kernel
theorem dX7_hand_75 : decode cX7_hand 75 = .ok (.ireturn, 1) := by decide +kernel
theorem dX7_hand_76 : decode cX7_hand 76 = .ok (.iload 5, 2) := by decide +kernel
theorem dX7_hand_78 : decode cX7_hand 78 = .ok (.ifCond .ne 11, 3) := by decide +kernel
theorem dX7_hand_81 : decode cX7_hand 81 = .ok (.aload_n 0, 1) := by decide +kernel
theorem dX7_hand_82 : decode cX7_hand 82 = .ok (.iconst 2, 1) := by decide +kernel
theorem dX7_hand_83 : decode cX7_hand 83 = .ok (.invokevirtual 69, 3) := by decide +kernel
theorem dX7_hand_86 : decode cX7_hand 86 = .ok (.goto 13, 3) := by decide +kernel
theorem dX7_hand_89 : decode cX7_hand 89 = .ok (.aload_n 0, 1) := by decide +kernel
theorem dX7_hand_90 : decode cX7_hand 90 = .ok (.getfield 43, 3) := by decide +kernel
theorem dX7_hand_93 : decode cX7_hand 93 = .ok (.getfield 216, 3) := by decide +kernel
theorem dX7_hand_96 : decode cX7_hand 96 = .ok (.iload 4, 2) := by decide +kernel
theorem dX7_hand_98 : decode cX7_hand 98 = .ok (.iaload, 1) := by decide +kernel
theorem dX7_hand_99 : decode cX7_hand 99 = .ok (.ireturn, 1) := by decide +kernel
theorem dX7_seed_0 : decode cX7_seed 0 = .ok (.aload_n 0, 1) := by decide +kernel
theorem dX7_seed_1 : decode cX7_seed 1 = .ok (.getfield 10, 3) := by decide +kernel
theorem dX7_seed_4 : decode cX7_seed 4 = .ok (.getfield 235, 3) := by decide +kernel
theorem dX7_seed_7 : decode cX7_seed 7 = .ok (.istore_n 2, 1) := by decide +kernel
theorem dX7_seed_8 : decode cX7_seed 8 = .ok (.aload_n 0, 1) := by decide +kernel
theorem dX7_seed_9 : decode cX7_seed 9 = .ok (.getfield 10, 3) := by decide +kernel
theorem dX7_seed_12 : decode cX7_seed 12 = .ok (.iload_n 1, 1) := by decide +kernel
theorem dX7_seed_13 : decode cX7_seed 13 = .ok (.putfield 235, 3) := by decide +kernel
theorem dX7_seed_16 : decode cX7_seed 16 = .ok (.iload_n 2, 1) := by decide +kernel
theorem dX7_seed_17 : decode cX7_seed 17 = .ok (.ireturn, 1) := by decide +kernel
theorem dX7_voice_0 : decode cX7_voice 0 = .ok (.aload_n 0, 1) := by decide +kernel
theorem dX7_voice_1 : decode cX7_voice 1 = .ok (.iload_n 1, 1) := by decide +kernel
theorem dX7_voice_2 : decode cX7_voice 2 = .ok (.invokevirtual 81, 3) := by decide +kernel
theorem dX7_voice_5 : decode cX7_voice 5 = .ok (.ifCond .eq 12, 3) := by decide +kernel
theorem dX7_voice_8 : decode cX7_voice 8 = .ok (.iload_n 2, 1) := by decide +kernel
theorem dX7_voice_9 : decode cX7_voice 9 = .ok (.iconst 0, 1) := by decide +kernel
theorem dX7_voice_10 : decode cX7_voice 10 = .ok (.iconst 3, 1) := by decide +kernel
theorem dX7_voice_11 : decode cX7_voice 11 = .ok (.invokestatic 85, 3) := by decide +kernel
theorem dX7_voice_14 : decode cX7_voice 14 = .ok (.ifCond .ne 9, 3) := by decide +kernel
theorem dX7_voice_17 : decode cX7_voice 17 = .ok (.aload_n 0, 1) := by decide +kernel
theorem dX7_voice_18 : decode cX7_voice 18 = .ok (.iconst 1, 1) := by decide +kernel
theorem dX7_voice_19 : decode cX7_voice 19 = .ok (.invokevirtual 69, 3) := by decide +kernel
theorem dX7_voice_22 : decode cX7_voice 22 = .ok (.ireturn, 1) := by decide +kernel
theorem dX7_voice_23 : decode cX7_voice 23 = .ok (.aload_n 0, 1) := by decide +kernel
theorem dX7_voice_24 : decode cX7_voice 24 = .ok (.getfield 50, 3) := by decide +kernel
theorem dX7_voice_27 : decode cX7_voice 27 = .ok (.iload_n 1, 1) := by decide +kernel
theorem dX7_voice_28 : decode cX7_voice 28 = .ok (.aload_n 0, 1) := by decide +kernel
theorem dX7_voice_29 : decode cX7_voice 29 = .ok (.getfield 10, 3) := by decide +kernel
theorem dX7_voice_32 : decode cX7_voice 32 = .ok (.getfield 88, 3) := by decide +kernel
theorem dX7_voice_35 : decode cX7_voice 35 = .ok (.iload_n 1, 1) := by decide +kernel
theorem dX7_voice_36 : decode cX7_voice 36 = .ok (.aaload, 1) := by decide +kernel
theorem dX7_voice_37 : decode cX7_voice 37 = .ok (.iload_n 2, 1) := by decide +kernel
theorem dX7_voice_38 : decode cX7_voice 38 = .ok (.iload_n 3, 1) := by decide +kernel
theorem dX7_voice_39 : decode cX7_voice 39 = .ok (.invokevirtual 238, 3) := by decide +kernel
theorem dX7_voice_42 : decode cX7_voice 42 = .ok (.ireturn, 1) := by decide +kernel
theorem dX7_trace_0 : decode cX7_trace 0 = .ok (.iload_n 1, 1) := by decide +kernel
theorem dX7_trace_1 : decode cX7_trace 1 = .ok (.iconst 0, 1) := by decide +kernel
theorem dX7_trace_2 : decode cX7_trace 2 = .ok (.aload_n 0, 1) := by decide +kernel
theorem dX7_trace_3 : decode cX7_trace 3 = .ok (.getfield 50, 3) := by decide +kernel
theorem dX7_trace_6 : decode cX7_trace 6 = .ok (.getfield 242, 3) := by decide +kernel
theorem dX7_trace_9 : decode cX7_trace 9 = .ok (.iconst 1, 1) := by decide +kernel
theorem dX7_trace_10 : decode cX7_trace 10 = .ok (.isub, 1) := by decide +kernel
theorem dX7_trace_11 : decode cX7_trace 11 = .ok (.invokestatic 85, 3) := by decide +kernel
theorem dX7_trace_14 : decode cX7_trace 14 = .ok (.ifCond .ne 9, 3) := by decide +kernel
theorem dX7_trace_17 : decode cX7_trace 17 = .ok (.aload_n 0, 1) := by decide +kernel
theorem dX7_trace_18 : decode cX7_trace 18 = .ok (.iconst 2, 1) := by decide +kernel
theorem dX7_trace_19 : decode cX7_trace 19 = .ok (.invokevirtual 69, 3) := by decide +kernel
theorem dX7_trace_22 : decode cX7_trace 22 = .ok (.ireturn, 1) := by decide +kernel
theorem dX7_trace_23 : decode cX7_trace 23 = .ok (.aload_n 0, 1) := by decide +kernel
theorem dX7_trace_24 : decode cX7_trace 24 = .ok (.getfield 50, 3) := by decide +kernel
theorem dX7_trace_27 : decode cX7_trace 27 = .ok (.getfield 245, 3) := by decide +kernel
theorem dX7_trace_30 : decode cX7_trace 30 = .ok (.iload_n 1, 1) := by decide +kernel
theorem dX7_trace_31 : decode cX7_trace 31 = .ok (.iaload, 1) := by decide +kernel
theorem dX7_trace_32 : decode cX7_trace 32 = .ok (.ireturn, 1) := by decide +kernel
theorem dX7_sheet_0 : decode cX7_sheet 0 = .ok (.iload_n 1, 1) := by decide +kernel
theorem dX7_sheet_1 : decode cX7_sheet 1 = .ok (.invokestatic 248, 3) := by decide +kernel
theorem dX7_sheet_4 : decode cX7_sheet 4 = .ok (.ifCond .eq 10, 3) := by decide +kernel
theorem dX7_sheet_7 : decode cX7_sheet 7 = .ok (.iload_n 2, 1) := by decide +kernel
theorem dX7_sheet_8 : decode cX7_sheet 8 = .ok (.invokestatic 251, 3) := by decide +kernel
theorem dX7_sheet_11 : decode cX7_sheet 11 = .ok (.ifCond .ne 9, 3) := by decide +kernel
theorem dX7_sheet_14 : decode cX7_sheet 14 = .ok (.aload_n 0, 1) := by decide +kernel
theorem dX7_sheet_15 : decode cX7_sheet 15 = .ok (.iconst 1, 1) := by decide +kernel
theorem dX7_sheet_16 : decode cX7_sheet 16 = .ok (.invokevirtual 69, 3) := by decide +kernel
theorem dX7_sheet_19 : decode cX7_sheet 19 = .ok (.ireturn, 1) := by decide +kernel
theorem dX7_sheet_20 : decode cX7_sheet 20 = .ok (.iload_n 2, 1) := by decide +kernel
theorem dX7_sheet_21 : decode cX7_sheet 21 = .ok (.ifCond .eq 13, 3) := by decide +kernel
theorem dX7_sheet_24 : decode cX7_sheet 24 = .ok (.iload_n 3, 1) := by decide +kernel
theorem dX7_sheet_25 : decode cX7_sheet 25 = .ok (.ifCond .ge 9, 3) := by decide +kernel
theorem dX7_sheet_28 : decode cX7_sheet 28 = .ok (.aload_n 0, 1) := by decide +kernel
theorem dX7_sheet_29 : decode cX7_sheet 29 = .ok (.iconst 3, 1) := by decide +kernel
theorem dX7_sheet_30 : decode cX7_sheet 30 = .ok (.invokevirtual 69, 3) := by decide +kernel
theorem dX7_sheet_33 : decode cX7_sheet 33 = .ok (.ireturn, 1) := by decide +kernel
theorem dX7_sheet_34 : decode cX7_sheet 34 = .ok (.iload_n 2, 1) := by decide +kernel
theorem dX7_sheet_35 : decode cX7_sheet 35 = .ok (.ifCond .eq 15, 3) := by decide +kernel
theorem dX7_sheet_38 : decode cX7_sheet 38 = .ok (.iload_n 3, 1) := by decide +kernel
theorem dX7_sheet_39 : decode cX7_sheet 39 = .ok (.bipush 40, 2) := by decide +kernel
theorem dX7_sheet_41 : decode cX7_sheet 41 = .ok (.if_icmp .le 9, 3) := by decide +kernel
theorem dX7_sheet_44 : decode cX7_sheet 44 = .ok (.aload_n 0, 1) := by decide +kernel
theorem dX7_sheet_45 : decode cX7_sheet 45 = .ok (.iconst 1, 1) := by decide +kernel
theorem dX7_sheet_46 : decode cX7_sheet 46 = .ok (.invokevirtual 69, 3) := by decide +kernel
theorem dX7_sheet_49 : decode cX7_sheet 49 = .ok (.ireturn, 1) := by decide +kernel
theorem dX7_sheet_50 : decode cX7_sheet 50 = .ok (.aload_n 0, 1) := by decide +kernel
theorem dX7_sheet_51 : decode cX7_sheet 51 = .ok (.getfield 56, 3) := by decide +kernel
theorem dX7_sheet_54 : decode cX7_sheet 54 = .ok (.iload_n 1, 1) := by decide +kernel
theorem dX7_sheet_55 : decode cX7_sheet 55 = .ok (.aaload, 1) := by decide +kernel
theorem dX7_sheet_56 : decode cX7_sheet 56 = .ok (.iload_n 2, 1) := by decide +kernel
theorem dX7_sheet_57 : decode cX7_sheet 57 = .ok (.iload_n 2, 1) := by decide +kernel
theorem dX7_sheet_58 : decode cX7_sheet 58 = .ok (.ifCond .ne 7, 3) := by decide +kernel
theorem dX7_sheet_61 : decode cX7_sheet 61 = .ok (.iconst 0, 1) := by decide +kernel
theorem dX7_sheet_62 : decode cX7_sheet 62 = .ok (.goto 4, 3) := by decide +kernel
theorem dX7_sheet_65 : decode cX7_sheet 65 = .ok (.iload_n 3, 1) := by decide +kernel
theorem dX7_sheet_66 : decode cX7_sheet 66 = .ok (.invokevirtual 254, 3) := by decide +kernel
theorem dX7_sheet_69 : decode cX7_sheet 69 = .ok (.iconst 1, 1) := by decide +kernel
theorem dX7_sheet_70 : decode cX7_sheet 70 = .ok (.ireturn, 1) := by decide +kernel
theorem dX7_put_0 : decode cX7_put 0 = .ok (.iload_n 1, 1) := by decide +kernel
theorem dX7_put_1 : decode cX7_put 1 = .ok (.invokestatic 248, 3) := by decide +kernel
theorem dX7_put_4 : decode cX7_put 4 = .ok (.ifCond .ne 9, 3) := by decide +kernel
theorem dX7_put_7 : decode cX7_put 7 = .ok (.aload_n 0, 1) := by decide +kernel
theorem dX7_put_8 : decode cX7_put 8 = .ok (.iconst 1, 1) := by decide +kernel
theorem dX7_put_9 : decode cX7_put 9 = .ok (.invokevirtual 69, 3) := by decide +kernel
theorem dX7_put_12 : decode cX7_put 12 = .ok (.ireturn, 1) := by decide +kernel
theorem dX7_put_13 : decode cX7_put 13 = .ok (.aload_n 0, 1) := by decide +kernel
theorem dX7_put_14 : decode cX7_put 14 = .ok (.getfield 56, 3) := by decide +kernel
theorem dX7_put_17 : decode cX7_put 17 = .ok (.iload_n 1, 1) := by decide +kernel
theorem dX7_put_18 : decode cX7_put 18 = .ok (.aaload, 1) := by decide +kernel
theorem dX7_put_19 : decode cX7_put 19 = .ok (.invokevirtual 257, 3) := by decide +kernel
theorem dX7_put_22 : decode cX7_put 22 = .ok (.ifCond .eq 9, 3) := by decide +kernel
theorem dX7_put_25 : decode cX7_put 25 = .ok (.aload_n 0, 1) := by decide +kernel
theorem dX7_put_26 : decode cX7_put 26 = .ok (.iconst 2, 1) := by decide +kernel
theorem dX7_put_27 : decode cX7_put 27 = .ok (.invokevirtual 69, 3) := by decide +kernel
theorem dX7_put_30 : decode cX7_put 30 = .ok (.ireturn, 1) := by decide +kernel
theorem dX7_put_31 : decode cX7_put 31 = .ok (.iload_n 2, 1) := by decide +kernel
theorem dX7_put_32 : decode cX7_put 32 = .ok (.iconst 0, 1) := by decide +kernel
theorem dX7_put_33 : decode cX7_put 33 = .ok (.aload_n 0, 1) := by decide +kernel
theorem dX7_put_34 : decode cX7_put 34 = .ok (.getfield 56, 3) := by decide +kernel
theorem dX7_put_37 : decode cX7_put 37 = .ok (.iload_n 1, 1) := by decide +kernel
theorem dX7_put_38 : decode cX7_put 38 = .ok (.aaload, 1) := by decide +kernel
theorem dX7_put_39 : decode cX7_put 39 = .ok (.getfield 260, 3) := by decide +kernel
theorem dX7_put_42 : decode cX7_put 42 = .ok (.iconst 1, 1) := by decide +kernel
theorem dX7_put_43 : decode cX7_put 43 = .ok (.isub, 1) := by decide +kernel
theorem dX7_put_44 : decode cX7_put 44 = .ok (.invokestatic 85, 3) := by decide +kernel
theorem dX7_put_47 : decode cX7_put 47 = .ok (.ifCond .ne 9, 3) := by decide +kernel
theorem dX7_put_50 : decode cX7_put 50 = .ok (.aload_n 0, 1) := by decide +kernel
theorem dX7_put_51 : decode cX7_put 51 = .ok (.iconst 1, 1) := by decide +kernel
theorem dX7_put_52 : decode cX7_put 52 = .ok (.invokevirtual 69, 3) := by decide +kernel
theorem dX7_put_55 : decode cX7_put 55 = .ok (.ireturn, 1) := by decide +kernel
theorem dX7_put_56 : decode cX7_put 56 = .ok (.aload_n 0, 1) := by decide +kernel
theorem dX7_put_57 : decode cX7_put 57 = .ok (.getfield 56, 3) := by decide +kernel
theorem dX7_put_60 : decode cX7_put 60 = .ok (.iload_n 1, 1) := by decide +kernel
theorem dX7_put_61 : decode cX7_put 61 = .ok (.aaload, 1) := by decide +kernel
theorem dX7_put_62 : decode cX7_put 62 = .ok (.iload_n 2, 1) := by decide +kernel
theorem dX7_put_63 : decode cX7_put 63 = .ok (.iload_n 3, 1) := by decide +kernel
theorem dX7_put_64 : decode cX7_put 64 = .ok (.invokevirtual 263, 3) := by decide +kernel
theorem dX7_put_67 : decode cX7_put 67 = .ok (.iconst 1, 1) := by decide +kernel
theorem dX7_put_68 : decode cX7_put 68 = .ok (.ireturn, 1) := by decide +kernel
theorem dX7_move_0 : decode cX7_move 0 = .ok (.iload_n 1, 1) := by decide +kernel
theorem dX7_move_1 : decode cX7_move 1 = .ok (.invokestatic 248, 3) := by decide +kernel
theorem dX7_move_4 : decode cX7_move 4 = .ok (.ifCond .eq 10, 3) := by decide +kernel
theorem dX7_move_7 : decode cX7_move 7 = .ok (.iload_n 3, 1) := by decide +kernel
theorem dX7_move_8 : decode cX7_move 8 = .ok (.invokestatic 248, 3) := by decide +kernel
theorem dX7_move_11 : decode cX7_move 11 = .ok (.ifCond .ne 9, 3) := by decide +kernel
theorem dX7_move_14 : decode cX7_move 14 = .ok (.aload_n 0, 1) := by decide +kernel
theorem dX7_move_15 : decode cX7_move 15 = .ok (.iconst 1, 1) := by decide +kernel
theorem dX7_move_16 : decode cX7_move 16 = .ok (.invokevirtual 69, 3) := by decide +kernel
theorem dX7_move_19 : decode cX7_move 19 = .ok (.ireturn, 1) := by decide +kernel
theorem dX7_move_20 : decode cX7_move 20 = .ok (.aload_n 0, 1) := by decide +kernel
theorem dX7_move_21 : decode cX7_move 21 = .ok (.getfield 56, 3) := by decide +kernel
theorem dX7_move_24 : decode cX7_move 24 = .ok (.iload_n 1, 1) := by decide +kernel
theorem dX7_move_25 : decode cX7_move 25 = .ok (.aaload, 1) := by decide +kernel
theorem dX7_move_26 : decode cX7_move 26 = .ok (.astore 6, 2) := by decide +kernel
theorem dX7_move_28 : decode cX7_move 28 = .ok (.aload_n 0, 1) := by decide +kernel
theorem dX7_move_29 : decode cX7_move 29 = .ok (.getfield 56, 3) := by decide +kernel
theorem dX7_move_32 : decode cX7_move 32 = .ok (.iload_n 3, 1) := by decide +kernel
theorem dX7_move_33 : decode cX7_move 33 = .ok (.aaload, 1) := by decide +kernel
theorem dX7_move_34 : decode cX7_move 34 = .ok (.astore 7, 2) := by decide +kernel
theorem dX7_move_36 : decode cX7_move 36 = .ok (.aload 6, 2) := by decide +kernel
theorem dX7_move_38 : decode cX7_move 38 = .ok (.invokevirtual 257, 3) := by decide +kernel
theorem dX7_move_41 : decode cX7_move 41 = .ok (.ifCond .ne 11, 3) := by decide +kernel
theorem dX7_move_44 : decode cX7_move 44 = .ok (.aload 7, 2) := by decide +kernel
theorem dX7_move_46 : decode cX7_move 46 = .ok (.invokevirtual 257, 3) := by decide +kernel
theorem dX7_move_49 : decode cX7_move 49 = .ok (.ifCond .eq 9, 3) := by decide +kernel
theorem dX7_move_52 : decode cX7_move 52 = .ok (.aload_n 0, 1) := by decide +kernel
theorem dX7_move_53 : decode cX7_move 53 = .ok (.iconst 2, 1) := by decide +kernel
theorem dX7_move_54 : decode cX7_move 54 = .ok (.invokevirtual 69, 3) := by decide +kernel
theorem dX7_move_57 : decode cX7_move 57 = .ok (.ireturn, 1) := by decide +kernel
theorem dX7_move_58 : decode cX7_move 58 = .ok (.aload 6, 2) := by decide +kernel
theorem dX7_move_60 : decode cX7_move 60 = .ok (.getfield 266, 3) := by decide +kernel
theorem dX7_move_63 : decode cX7_move 63 = .ok (.aload 7, 2) := by decide +kernel
theorem dX7_move_65 : decode cX7_move 65 = .ok (.getfield 266, 3) := by decide +kernel
theorem dX7_move_68 : decode cX7_move 68 = .ok (.if_icmp .eq 9, 3) := by decide +kernel
theorem dX7_move_71 : decode cX7_move 71 = .ok (.aload_n 0, 1) := by decide +kernel
theorem dX7_move_72 : decode cX7_move 72 = .ok (.iconst 5, 1) := by decide +kernel
theorem dX7_move_73 : decode cX7_move 73 = .ok (.invokevirtual 69, 3) := by decide +kernel
theorem dX7_move_76 : decode cX7_move 76 = .ok (.ireturn, 1) := by decide +kernel
theorem dX7_move_77 : decode cX7_move 77 = .ok (.aload 6, 2) := by decide +kernel
theorem dX7_move_79 : decode cX7_move 79 = .ok (.iload_n 2, 1) := by decide +kernel
theorem dX7_move_80 : decode cX7_move 80 = .ok (.iload 5, 2) := by decide +kernel
theorem dX7_move_82 : decode cX7_move 82 = .ok (.invokevirtual 269, 3) := by decide +kernel
theorem dX7_move_85 : decode cX7_move 85 = .ok (.ifCond .eq 15, 3) := by decide +kernel
theorem dX7_move_88 : decode cX7_move 88 = .ok (.aload 7, 2) := by decide +kernel
theorem dX7_move_90 : decode cX7_move 90 = .ok (.iload 4, 2) := by decide +kernel
theorem dX7_move_92 : decode cX7_move 92 = .ok (.iload 5, 2) := by decide +kernel
theorem dX7_move_94 : decode cX7_move 94 = .ok (.invokevirtual 269, 3) := by decide +kernel
theorem dX7_move_97 : decode cX7_move 97 = .ok (.ifCond .ne 9, 3) := by decide +kernel
theorem dX7_move_100 : decode cX7_move 100 = .ok (.aload_n 0, 1) := by decide +kernel
theorem dX7_move_101 : decode cX7_move 101 = .ok (.iconst 1, 1) := by decide +kernel
theorem dX7_move_102 : decode cX7_move 102 = .ok (.invokevirtual 69, 3) := by decide +kernel
theorem dX7_move_105 : decode cX7_move 105 = .ok (.ireturn, 1) := by decide +kernel
theorem dX7_move_106 : decode cX7_move 106 = .ok (.aload 6, 2) := by decide +kernel
theorem dX7_move_108 : decode cX7_move 108 = .ok (.getfield 272, 3) := by decide +kernel
theorem dX7_move_111 : decode cX7_move 111 = .ok (.iload_n 2, 1) := by decide +kernel
theorem dX7_move_112 : decode cX7_move 112 = .ok (.aload 7, 2) := by decide +kernel
theorem dX7_move_114 : decode cX7_move 114 = .ok (.getfield 272, 3) := by decide +kernel
theorem dX7_move_117 : decode cX7_move 117 = .ok (.iload 4, 2) := by decide +kernel
theorem dX7_move_119 : decode cX7_move 119 = .ok (.iload 5, 2) := by decide +kernel
theorem dX7_move_121 : decode cX7_move 121 = .ok (.invokestatic 275, 3) := by decide +kernel
theorem dX7_move_124 : decode cX7_move 124 = .ok (.iload 5, 2) := by decide +kernel
theorem dX7_move_126 : decode cX7_move 126 = .ok (.ireturn, 1) := by decide +kernel
theorem dX7_knives_0 : decode cX7_knives 0 = .ok (.iload_n 1, 1) := by decide +kernel
theorem dX7_knives_1 : decode cX7_knives 1 = .ok (.invokestatic 248, 3) := by decide +kernel
theorem dX7_knives_4 : decode cX7_knives 4 = .ok (.ifCond .ne 9, 3) := by decide +kernel
theorem dX7_knives_7 : decode cX7_knives 7 = .ok (.aload_n 0, 1) := by decide +kernel
theorem dX7_knives_8 : decode cX7_knives 8 = .ok (.iconst 1, 1) := by decide +kernel
theorem dX7_knives_9 : decode cX7_knives 9 = .ok (.invokevirtual 69, 3) := by decide +kernel
theorem dX7_knives_12 : decode cX7_knives 12 = .ok (.ireturn, 1) := by decide +kernel
theorem dX7_knives_13 : decode cX7_knives 13 = .ok (.aload_n 0, 1) := by decide +kernel
theorem dX7_knives_14 : decode cX7_knives 14 = .ok (.getfield 56, 3) := by decide +kernel
theorem dX7_knives_17 : decode cX7_knives 17 = .ok (.iload_n 1, 1) := by decide +kernel
theorem dX7_knives_18 : decode cX7_knives 18 = .ok (.aaload, 1) := by decide +kernel
theorem dX7_knives_19 : decode cX7_knives 19 = .ok (.astore_n 2, 1) := by decide +kernel
theorem dX7_knives_20 : decode cX7_knives 20 = .ok (.aload_n 2, 1) := by decide +kernel
theorem dX7_knives_21 : decode cX7_knives 21 = .ok (.invokevirtual 257, 3) := by decide +kernel
theorem dX7_knives_24 : decode cX7_knives 24 = .ok (.ifCond .eq 9, 3) := by decide +kernel
theorem dX7_knives_27 : decode cX7_knives 27 = .ok (.aload_n 0, 1) := by decide +kernel
theorem dX7_knives_28 : decode cX7_knives 28 = .ok (.iconst 2, 1) := by decide +kernel
theorem dX7_knives_29 : decode cX7_knives 29 = .ok (.invokevirtual 69, 3) := by decide +kernel
theorem dX7_knives_32 : decode cX7_knives 32 = .ok (.ireturn, 1) := by decide +kernel
theorem dX7_knives_33 : decode cX7_knives 33 = .ok (.iconst 0, 1) := by decide +kernel
theorem dX7_knives_34 : decode cX7_knives 34 = .ok (.istore_n 3, 1) := by decide +kernel
theorem dX7_knives_35 : decode cX7_knives 35 = .ok (.iconst 0, 1) := by decide +kernel
theorem dX7_knives_36 : decode cX7_knives 36 = .ok (.istore 4, 2) := by decide +kernel
theorem dX7_knives_38 : decode cX7_knives 38 = .ok (.iload 4, 2) := by decide +kernel
theorem dX7_knives_40 : decode cX7_knives 40 = .ok (.iconst 2, 1) := by decide +kernel
theorem dX7_knives_41 : decode cX7_knives 41 = .ok (.iadd, 1) := by decide +kernel
theorem dX7_knives_42 : decode cX7_knives 42 = .ok (.aload_n 2, 1) := by decide +kernel
theorem dX7_knives_43 : decode cX7_knives 43 = .ok (.getfield 260, 3) := by decide +kernel
theorem dX7_knives_46 : decode cX7_knives 46 = .ok (.if_icmp .ge 91, 3) := by decide +kernel
theorem dX7_knives_49 : decode cX7_knives 49 = .ok (.iload 4, 2) := by decide +kernel
theorem dX7_knives_51 : decode cX7_knives 51 = .ok (.iconst 2, 1) := by decide +kernel
theorem dX7_knives_52 : decode cX7_knives 52 = .ok (.iadd, 1) := by decide +kernel
theorem dX7_knives_53 : decode cX7_knives 53 = .ok (.bipush 40, 2) := by decide +kernel
theorem dX7_knives_55 : decode cX7_knives 55 = .ok (.if_icmp .ge 82, 3) := by decide +kernel
theorem dX7_knives_58 : decode cX7_knives 58 = .ok (.aload_n 2, 1) := by decide +kernel
theorem dX7_knives_59 : decode cX7_knives 59 = .ok (.getfield 272, 3) := by decide +kernel
theorem dX7_knives_62 : decode cX7_knives 62 = .ok (.iload 4, 2) := by decide +kernel
theorem dX7_knives_64 : decode cX7_knives 64 = .ok (.iaload, 1) := by decide +kernel
theorem dX7_knives_65 : decode cX7_knives 65 = .ok (.istore 5, 2) := by decide +kernel
theorem dX7_knives_67 : decode cX7_knives 67 = .ok (.aload_n 2, 1) := by decide +kernel
theorem dX7_knives_68 : decode cX7_knives 68 = .ok (.getfield 272, 3) := by decide +kernel
theorem dX7_knives_71 : decode cX7_knives 71 = .ok (.iload 4, 2) := by decide +kernel
theorem dX7_knives_73 : decode cX7_knives 73 = .ok (.iconst 1, 1) := by decide +kernel
theorem dX7_knives_74 : decode cX7_knives 74 = .ok (.iadd, 1) := by decide +kernel
theorem dX7_knives_75 : decode cX7_knives 75 = .ok (.iaload, 1) := by decide +kernel
theorem dX7_knives_76 : decode cX7_knives 76 = .ok (.istore 6, 2) := by decide +kernel
theorem dX7_knives_78 : decode cX7_knives 78 = .ok (.aload_n 2, 1) := by decide +kernel
theorem dX7_knives_79 : decode cX7_knives 79 = .ok (.getfield 272, 3) := by decide +kernel
theorem dX7_knives_82 : decode cX7_knives 82 = .ok (.iload 4, 2) := by decide +kernel
theorem dX7_knives_84 : decode cX7_knives 84 = .ok (.iconst 2, 1) := by decide +kernel
theorem dX7_knives_85 : decode cX7_knives 85 = .ok (.iadd, 1) := by decide +kernel
theorem dX7_knives_86 : decode cX7_knives 86 = .ok (.iaload, 1) := by decide +kernel
theorem dX7_knives_87 : decode cX7_knives 87 = .ok (.istore 7, 2) := by decide +kernel
theorem dX7_knives_89 : decode cX7_knives 89 = .ok (.iload 5, 2) := by decide +kernel
theorem dX7_knives_91 : decode cX7_knives 91 = .ok (.iload 6, 2) := by decide +kernel
theorem dX7_knives_93 : decode cX7_knives 93 = .ok (.iload 7, 2) := by decide +kernel
theorem dX7_knives_95 : decode cX7_knives 95 = .ok (.invokestatic 65, 3) := by decide +kernel
theorem dX7_knives_98 : decode cX7_knives 98 = .ok (.ifCond .eq 39, 3) := by decide +kernel
theorem dX7_knives_101 : decode cX7_knives 101 = .ok (.aload_n 0, 1) := by decide +kernel
theorem dX7_knives_102 : decode cX7_knives 102 = .ok (.getfield 10, 3) := by decide +kernel
theorem dX7_knives_105 : decode cX7_knives 105 = .ok (.invokevirtual 73, 3) := by decide +kernel
theorem dX7_knives_108 : decode cX7_knives 108 = .ok (.ifCond .eq 6, 3) := by decide +kernel
theorem dX7_knives_111 : decode cX7_knives 111 = .ok (.goto 26, 3) := by decide +kernel
theorem dX7_knives_114 : decode cX7_knives 114 = .ok (.aload_n 0, 1) := by decide +kernel
theorem dX7_knives_115 : decode cX7_knives 115 = .ok (.getfield 10, 3) := by decide +kernel
theorem dX7_knives_118 : decode cX7_knives 118 = .ok (.iload 5, 2) := by decide +kernel
theorem dX7_knives_120 : decode cX7_knives 120 = .ok (.iload 6, 2) := by decide +kernel
theorem dX7_knives_122 : decode cX7_knives 122 = .ok (.iload 7, 2) := by decide +kernel
theorem dX7_knives_124 : decode cX7_knives 124 = .ok (.invokevirtual 77, 3) := by decide +kernel
theorem dX7_knives_127 : decode cX7_knives 127 = .ok (.pop, 1) := by decide +kernel
theorem dX7_knives_128 : decode cX7_knives 128 = .ok (.iinc 3 1, 3) := by decide +kernel
theorem dX7_knives_131 : decode cX7_knives 131 = .ok (.iinc 4 3, 3) := by decide +kernel
theorem dX7_knives_134 : decode cX7_knives 134 = .ok (.goto (-96), 3) := by decide +kernel
theorem dX7_knives_137 : decode cX7_knives 137 = .ok (.iload_n 3, 1) := by decide +kernel
theorem dX7_knives_138 : decode cX7_knives 138 = .ok (.ireturn, 1) := by decide +kernel
theorem dX7_image_0 : decode cX7_image 0 = .ok (.aload_n 0, 1) := by decide +kernel
theorem dX7_image_1 : decode cX7_image 1 = .ok (.getfield 19, 3) := by decide +kernel
theorem dX7_image_4 : decode cX7_image 4 = .ok (.aload_n 0, 1) := by decide +kernel
theorem dX7_image_5 : decode cX7_image 5 = .ok (.getfield 10, 3) := by decide +kernel
theorem dX7_image_8 : decode cX7_image 8 = .ok (.invokevirtual 206, 3) := by decide +kernel
theorem dX7_image_11 : decode cX7_image 11 = .ok (.aload_n 0, 1) := by decide +kernel
theorem dX7_image_12 : decode cX7_image 12 = .ok (.dup, 1) := by decide +kernel
theorem dX7_image_13 : decode cX7_image 13 = .ok (.getfield 22, 3) := by decide +kernel
theorem dX7_image_16 : decode cX7_image 16 = .ok (.iconst 1, 1) := by decide +kernel
theorem dX7_image_17 : decode cX7_image 17 = .ok (.iadd, 1) := by decide +kernel
theorem dX7_image_18 : decode cX7_image 18 = .ok (.putfield 22, 3) := by decide +kernel
theorem dX7_image_21 : decode cX7_image 21 = .ok (.aload_n 0, 1) := by decide +kernel
theorem dX7_image_22 : decode cX7_image 22 = .ok (.getfield 22, 3) := by decide +kernel
theorem dX7_image_25 : decode cX7_image 25 = .ok (.ireturn, 1) := by decide +kernel
theorem dX7_restore_0 : decode cX7_restore 0 = .ok (.aload_n 0, 1) := by decide +kernel
theorem dX7_restore_1 : decode cX7_restore 1 = .ok (.getfield 22, 3) := by decide +kernel
theorem dX7_restore_4 : decode cX7_restore 4 = .ok (.ifCond .ne 9, 3) := by decide +kernel
theorem dX7_restore_7 : decode cX7_restore 7 = .ok (.aload_n 0, 1) := by decide +kernel
theorem dX7_restore_8 : decode cX7_restore 8 = .ok (.iconst 2, 1) := by decide +kernel
theorem dX7_restore_9 : decode cX7_restore 9 = .ok (.invokevirtual 69, 3) := by decide +kernel
theorem dX7_restore_12 : decode cX7_restore 12 = .ok (.ireturn, 1) := by decide +kernel
theorem dX7_restore_13 : decode cX7_restore 13 = .ok (.aload_n 0, 1) := by decide +kernel
theorem dX7_restore_14 : decode cX7_restore 14 = .ok (.getfield 10, 3) := by decide +kernel
theorem dX7_restore_17 : decode cX7_restore 17 = .ok (.aload_n 0, 1) := by decide +kernel
theorem dX7_restore_18 : decode cX7_restore 18 = .ok (.getfield 19, 3) := by decide +kernel
theorem dX7_restore_21 : decode cX7_restore 21 = .ok (.invokevirtual 206, 3) := by decide +kernel
theorem dX7_restore_24 : decode cX7_restore 24 = .ok (.aload_n 0, 1) := by decide +kernel
theorem dX7_restore_25 : decode cX7_restore 25 = .ok (.getfield 10, 3) := by decide +kernel
theorem dX7_restore_28 : decode cX7_restore 28 = .ok (.getfield 281, 3) := by decide +kernel
theorem dX7_restore_31 : decode cX7_restore 31 = .ok (.ireturn, 1) := by decide +kernel
theorem dX7_tell_0 : decode cX7_tell 0 = .ok (.aload_n 0, 1) := by decide +kernel
theorem dX7_tell_1 : decode cX7_tell 1 = .ok (.getfield 10, 3) := by decide +kernel
theorem dX7_tell_4 : decode cX7_tell 4 = .ok (.getfield 284, 3) := by decide +kernel
theorem dX7_tell_7 : decode cX7_tell 7 = .ok (.bipush 20, 2) := by decide +kernel
theorem dX7_tell_9 : decode cX7_tell 9 = .ok (.if_icmp .lt 9, 3) := by decide +kernel
theorem dX7_tell_12 : decode cX7_tell 12 = .ok (.aload_n 0, 1) := by decide +kernel
theorem dX7_tell_13 : decode cX7_tell 13 = .ok (.iconst 4, 1) := by decide +kernel
theorem dX7_tell_14 : decode cX7_tell 14 = .ok (.invokevirtual 69, 3) := by decide +kernel
theorem dX7_tell_17 : decode cX7_tell 17 = .ok (.ireturn, 1) := by decide +kernel
theorem dX7_tell_18 : decode cX7_tell 18 = .ok (.aload_n 0, 1) := by decide +kernel
theorem dX7_tell_19 : decode cX7_tell 19 = .ok (.getfield 10, 3) := by decide +kernel
theorem dX7_tell_22 : decode cX7_tell 22 = .ok (.getfield 287, 3) := by decide +kernel
theorem dX7_tell_25 : decode cX7_tell 25 = .ok (.aload_n 0, 1) := by decide +kernel
theorem dX7_tell_26 : decode cX7_tell 26 = .ok (.getfield 10, 3) := by decide +kernel
theorem dX7_tell_29 : decode cX7_tell 29 = .ok (.getfield 284, 3) := by decide +kernel
theorem dX7_tell_32 : decode cX7_tell 32 = .ok (.iload_n 1, 1) := by decide +kernel
theorem dX7_tell_33 : decode cX7_tell 33 = .ok (.iastore, 1) := by decide +kernel
theorem dX7_tell_34 : decode cX7_tell 34 = .ok (.aload_n 0, 1) := by decide +kernel
theorem dX7_tell_35 : decode cX7_tell 35 = .ok (.getfield 10, 3) := by decide +kernel
theorem dX7_tell_38 : decode cX7_tell 38 = .ok (.dup, 1) := by decide +kernel
theorem dX7_tell_39 : decode cX7_tell 39 = .ok (.getfield 284, 3) := by decide +kernel
theorem dX7_tell_42 : decode cX7_tell 42 = .ok (.iconst 1, 1) := by decide +kernel
theorem dX7_tell_43 : decode cX7_tell 43 = .ok (.iadd, 1) := by decide +kernel
theorem dX7_tell_44 : decode cX7_tell 44 = .ok (.putfield 284, 3) := by decide +kernel
theorem dX7_tell_47 : decode cX7_tell 47 = .ok (.aload_n 0, 1) := by decide +kernel
theorem dX7_tell_48 : decode cX7_tell 48 = .ok (.getfield 10, 3) := by decide +kernel
theorem dX7_tell_51 : decode cX7_tell 51 = .ok (.getfield 284, 3) := by decide +kernel
theorem dX7_tell_54 : decode cX7_tell 54 = .ok (.ireturn, 1) := by decide +kernel
theorem dX7_check_0 : decode cX7_check 0 = .ok (.aload_n 0, 1) := by decide +kernel
theorem dX7_check_1 : decode cX7_check 1 = .ok (.getfield 10, 3) := by decide +kernel
theorem dX7_check_4 : decode cX7_check 4 = .ok (.getfield 284, 3) := by decide +kernel
theorem dX7_check_7 : decode cX7_check 7 = .ok (.istore_n 2, 1) := by decide +kernel
theorem dX7_check_8 : decode cX7_check 8 = .ok (.aload_n 0, 1) := by decide +kernel
theorem dX7_check_9 : decode cX7_check 9 = .ok (.getfield 10, 3) := by decide +kernel
theorem dX7_check_12 : decode cX7_check 12 = .ok (.iconst 0, 1) := by decide +kernel
theorem dX7_check_13 : decode cX7_check 13 = .ok (.putfield 284, 3) := by decide +kernel
theorem dX7_check_16 : decode cX7_check 16 = .ok (.aload_n 0, 1) := by decide +kernel
theorem dX7_check_17 : decode cX7_check 17 = .ok (.iload_n 1, 1) := by decide +kernel
theorem dX7_check_18 : decode cX7_check 18 = .ok (.invokevirtual 81, 3) := by decide +kernel
theorem dX7_check_21 : decode cX7_check 21 = .ok (.ifCond .ne 9, 3) := by decide +kernel
theorem dX7_check_24 : decode cX7_check 24 = .ok (.aload_n 0, 1) := by decide +kernel
theorem dX7_check_25 : decode cX7_check 25 = .ok (.iconst 1, 1) := by decide +kernel
theorem dX7_check_26 : decode cX7_check 26 = .ok (.invokevirtual 69, 3) := by decide +kernel
theorem dX7_check_29 : decode cX7_check 29 = .ok (.ireturn, 1) := by decide +kernel
theorem dX7_check_30 : decode cX7_check 30 = .ok (.aload_n 0, 1) := by decide +kernel
theorem dX7_check_31 : decode cX7_check 31 = .ok (.getfield 16, 3) := by decide +kernel
theorem dX7_check_34 : decode cX7_check 34 = .ok (.aload_n 0, 1) := by decide +kernel
theorem dX7_check_35 : decode cX7_check 35 = .ok (.getfield 10, 3) := by decide +kernel
theorem dX7_check_38 : decode cX7_check 38 = .ok (.invokevirtual 206, 3) := by decide +kernel
theorem dX7_check_41 : decode cX7_check 41 = .ok (.iconst 0, 1) := by decide +kernel
theorem dX7_check_42 : decode cX7_check 42 = .ok (.istore_n 3, 1) := by decide +kernel
theorem dX7_check_43 : decode cX7_check 43 = .ok (.iload_n 3, 1) := by decide +kernel
theorem dX7_check_44 : decode cX7_check 44 = .ok (.iload_n 2, 1) := by decide +kernel
theorem dX7_check_45 : decode cX7_check 45 = .ok (.if_icmp .ge 52, 3) := by decide +kernel
theorem dX7_check_48 : decode cX7_check 48 = .ok (.iload_n 3, 1) := by decide +kernel
theorem dX7_check_49 : decode cX7_check 49 = .ok (.bipush 20, 2) := by decide +kernel
theorem dX7_check_51 : decode cX7_check 51 = .ok (.if_icmp .ge 46, 3) := by decide +kernel
theorem dX7_check_54 : decode cX7_check 54 = .ok (.aload_n 0, 1) := by decide +kernel
theorem dX7_check_55 : decode cX7_check 55 = .ok (.getfield 16, 3) := by decide +kernel
theorem dX7_check_58 : decode cX7_check 58 = .ok (.iconst 1, 1) := by decide +kernel
theorem dX7_check_59 : decode cX7_check 59 = .ok (.iconst 0, 1) := by decide +kernel
theorem dX7_check_60 : decode cX7_check 60 = .ok (.invokevirtual 209, 3) := by decide +kernel
theorem dX7_check_63 : decode cX7_check 63 = .ok (.aload_n 0, 1) := by decide +kernel
theorem dX7_check_64 : decode cX7_check 64 = .ok (.getfield 16, 3) := by decide +kernel
theorem dX7_check_67 : decode cX7_check 67 = .ok (.getfield 88, 3) := by decide +kernel
theorem dX7_check_70 : decode cX7_check 70 = .ok (.iload_n 1, 1) := by decide +kernel
theorem dX7_check_71 : decode cX7_check 71 = .ok (.aaload, 1) := by decide +kernel
theorem dX7_check_72 : decode cX7_check 72 = .ok (.getfield 133, 3) := by decide +kernel
theorem dX7_check_75 : decode cX7_check 75 = .ok (.aload_n 0, 1) := by decide +kernel
theorem dX7_check_76 : decode cX7_check 76 = .ok (.getfield 10, 3) := by decide +kernel
theorem dX7_check_79 : decode cX7_check 79 = .ok (.getfield 287, 3) := by decide +kernel
theorem dX7_check_82 : decode cX7_check 82 = .ok (.iload_n 3, 1) := by decide +kernel
theorem dX7_check_83 : decode cX7_check 83 = .ok (.iaload, 1) := by decide +kernel
theorem dX7_check_84 : decode cX7_check 84 = .ok (.if_icmp .eq 7, 3) := by decide +kernel
theorem dX7_check_87 : decode cX7_check 87 = .ok (.iconst 1, 1) := by decide +kernel
theorem dX7_check_88 : decode cX7_check 88 = .ok (.iload_n 3, 1) := by decide +kernel
theorem dX7_check_89 : decode cX7_check 89 = .ok (.iadd, 1) := by decide +kernel
theorem dX7_check_90 : decode cX7_check 90 = .ok (.ireturn, 1) := by decide +kernel
theorem dX7_check_91 : decode cX7_check 91 = .ok (.iinc 3 1, 3) := by decide +kernel
theorem dX7_check_94 : decode cX7_check 94 = .ok (.goto (-51), 3) := by decide +kernel
theorem dX7_check_97 : decode cX7_check 97 = .ok (.iconst 0, 1) := by decide +kernel
theorem dX7_check_98 : decode cX7_check 98 = .ok (.ireturn, 1) := by decide +kernel
theorem dX7_count_0 : decode cX7_count 0 = .ok (.iload_n 1, 1) := by decide +kernel
theorem dX7_count_1 : decode cX7_count 1 = .ok (.tableswitch 123 0 8 #[51, 59, 67, 75, 83, 91, 99, 107, 115], 51) := by decide +kernel
theorem dX7_count_52 : decode cX7_count 52 = .ok (.aload_n 0, 1) := by decide +kernel
theorem dX7_count_53 : decode cX7_count 53 = .ok (.getfield 10, 3) := by decide +kernel
theorem dX7_count_56 : decode cX7_count 56 = .ok (.getfield 281, 3) := by decide +kernel
theorem dX7_count_59 : decode cX7_count 59 = .ok (.ireturn, 1) := by decide +kernel
theorem dX7_count_60 : decode cX7_count 60 = .ok (.aload_n 0, 1) := by decide +kernel
theorem dX7_count_61 : decode cX7_count 61 = .ok (.getfield 10, 3) := by decide +kernel
theorem dX7_count_64 : decode cX7_count 64 = .ok (.getfield 288, 3) := by decide +kernel
theorem dX7_count_67 : decode cX7_count 67 = .ok (.ireturn, 1) := by decide +kernel
theorem dX7_count_68 : decode cX7_count 68 = .ok (.aload_n 0, 1) := by decide +kernel
theorem dX7_count_69 : decode cX7_count 69 = .ok (.getfield 10, 3) := by decide +kernel
theorem dX7_count_72 : decode cX7_count 72 = .ok (.getfield 200, 3) := by decide +kernel
theorem dX7_count_75 : decode cX7_count 75 = .ok (.ireturn, 1) := by decide +kernel
theorem dX7_count_76 : decode cX7_count 76 = .ok (.aload_n 0, 1) := by decide +kernel
theorem dX7_count_77 : decode cX7_count 77 = .ok (.getfield 10, 3) := by decide +kernel
theorem dX7_count_80 : decode cX7_count 80 = .ok (.invokevirtual 289, 3) := by decide +kernel
theorem dX7_count_83 : decode cX7_count 83 = .ok (.ireturn, 1) := by decide +kernel
theorem dX7_count_84 : decode cX7_count 84 = .ok (.aload_n 0, 1) := by decide +kernel
theorem dX7_count_85 : decode cX7_count 85 = .ok (.getfield 10, 3) := by decide +kernel
theorem dX7_count_88 : decode cX7_count 88 = .ok (.invokevirtual 292, 3) := by decide +kernel
theorem dX7_count_91 : decode cX7_count 91 = .ok (.ireturn, 1) := by decide +kernel
theorem dX7_count_92 : decode cX7_count 92 = .ok (.aload_n 0, 1) := by decide +kernel
theorem dX7_count_93 : decode cX7_count 93 = .ok (.getfield 10, 3) := by decide +kernel
theorem dX7_count_96 : decode cX7_count 96 = .ok (.getfield 146, 3) := by decide +kernel
theorem dX7_count_99 : decode cX7_count 99 = .ok (.ireturn, 1) := by decide +kernel
theorem dX7_count_100 : decode cX7_count 100 = .ok (.aload_n 0, 1) := by decide +kernel
theorem dX7_count_101 : decode cX7_count 101 = .ok (.getfield 10, 3) := by decide +kernel
theorem dX7_count_104 : decode cX7_count 104 = .ok (.getfield 284, 3) := by decide +kernel
theorem dX7_count_107 : decode cX7_count 107 = .ok (.ireturn, 1) := by decide +kernel
theorem dX7_count_108 : decode cX7_count 108 = .ok (.aload_n 0, 1) := by decide +kernel
theorem dX7_count_109 : decode cX7_count 109 = .ok (.getfield 50, 3) := by decide +kernel
theorem dX7_count_112 : decode cX7_count 112 = .ok (.getfield 242, 3) := by decide +kernel
theorem dX7_count_115 : decode cX7_count 115 = .ok (.ireturn, 1) := by decide +kernel
theorem dX7_count_116 : decode cX7_count 116 = .ok (.aload_n 0, 1) := by decide +kernel
theorem dX7_count_117 : decode cX7_count 117 = .ok (.getfield 10, 3) := by decide +kernel
theorem dX7_count_120 : decode cX7_count 120 = .ok (.getfield 235, 3) := by decide +kernel
theorem dX7_count_123 : decode cX7_count 123 = .ok (.ireturn, 1) := by decide +kernel
theorem dX7_count_124 : decode cX7_count 124 = .ok (.aload_n 0, 1) := by decide +kernel
theorem dX7_count_125 : decode cX7_count 125 = .ok (.iconst 1, 1) := by decide +kernel
theorem dX7_count_126 : decode cX7_count 126 = .ok (.invokevirtual 69, 3) := by decide +kernel
theorem dX7_count_129 : decode cX7_count 129 = .ok (.ireturn, 1) := by decide +kernel
theorem dX7_told_0 : decode cX7_told 0 = .ok (.iload_n 1, 1) := by decide +kernel
theorem dX7_told_1 : decode cX7_told 1 = .ok (.iconst 1, 1) := by decide +kernel
theorem dX7_told_2 : decode cX7_told 2 = .ok (.iconst 5, 1) := by decide +kernel
theorem dX7_told_3 : decode cX7_told 3 = .ok (.invokestatic 85, 3) := by decide +kernel
theorem dX7_told_6 : decode cX7_told 6 = .ok (.ifCond .ne 9, 3) := by decide +kernel
theorem dX7_told_9 : decode cX7_told 9 = .ok (.aload_n 0, 1) := by decide +kernel
theorem dX7_told_10 : decode cX7_told 10 = .ok (.iconst 1, 1) := by decide +kernel
theorem dX7_told_11 : decode cX7_told 11 = .ok (.invokevirtual 69, 3) := by decide +kernel
theorem dX7_told_14 : decode cX7_told 14 = .ok (.ireturn, 1) := by decide +kernel
theorem dX7_told_15 : decode cX7_told 15 = .ok (.aload_n 0, 1) := by decide +kernel
theorem dX7_told_16 : decode cX7_told 16 = .ok (.getfield 60, 3) := by decide +kernel
theorem dX7_told_19 : decode cX7_told 19 = .ok (.iload_n 1, 1) := by decide +kernel
theorem dX7_told_20 : decode cX7_told 20 = .ok (.iaload, 1) := by decide +kernel
theorem dX7_told_21 : decode cX7_told 21 = .ok (.ireturn, 1) := by decide +kernel
theorem dX7_error_0 : decode cX7_error 0 = .ok (.aload_n 0, 1) := by decide +kernel
theorem dX7_error_1 : decode cX7_error 1 = .ok (.getfield 60, 3) := by decide +kernel
theorem dX7_error_4 : decode cX7_error 4 = .ok (.iload_n 1, 1) := by decide +kernel
theorem dX7_error_5 : decode cX7_error 5 = .ok (.dup2, 1) := by decide +kernel
theorem dX7_error_6 : decode cX7_error 6 = .ok (.iaload, 1) := by decide +kernel
theorem dX7_error_7 : decode cX7_error 7 = .ok (.iconst 1, 1) := by decide +kernel
theorem dX7_error_8 : decode cX7_error 8 = .ok (.iadd, 1) := by decide +kernel
theorem dX7_error_9 : decode cX7_error 9 = .ok (.iastore, 1) := by decide +kernel
theorem dX7_error_10 : decode cX7_error 10 = .ok (.ldc_w 295, 3) := by decide +kernel
theorem dX7_error_13 : decode cX7_error 13 = .ok (.iload_n 1, 1) := by decide +kernel
theorem dX7_error_14 : decode cX7_error 14 = .ok (.isub, 1) := by decide +kernel
theorem dX7_error_15 : decode cX7_error 15 = .ok (.ireturn, 1) := by decide +kernel
theorem dX7_isKnife_0 : decode cX7_isKnife 0 = .ok (.iload_n 1, 1) := by decide +kernel
theorem dX7_isKnife_1 : decode cX7_isKnife 1 = .ok (.ifCond .lt 18, 3) := by decide +kernel
theorem dX7_isKnife_4 : decode cX7_isKnife 4 = .ok (.iload_n 1, 1) := by decide +kernel
theorem dX7_isKnife_5 : decode cX7_isKnife 5 = .ok (.aload_n 0, 1) := by decide +kernel
theorem dX7_isKnife_6 : decode cX7_isKnife 6 = .ok (.getfield 10, 3) := by decide +kernel
theorem dX7_isKnife_9 : decode cX7_isKnife 9 = .ok (.getfield 288, 3) := by decide +kernel
theorem dX7_isKnife_12 : decode cX7_isKnife 12 = .ok (.if_icmp .ge 7, 3) := by decide +kernel
theorem dX7_isKnife_15 : decode cX7_isKnife 15 = .ok (.iconst 1, 1) := by decide +kernel
theorem dX7_isKnife_16 : decode cX7_isKnife 16 = .ok (.goto 4, 3) := by decide +kernel
theorem dX7_isKnife_19 : decode cX7_isKnife 19 = .ok (.iconst 0, 1) := by decide +kernel
theorem dX7_isKnife_20 : decode cX7_isKnife 20 = .ok (.ireturn, 1) := by decide +kernel
theorem dX7_passOf_0 : decode cX7_passOf 0 = .ok (.iload_n 1, 1) := by decide +kernel
theorem dX7_passOf_1 : decode cX7_passOf 1 = .ok (.iconst 1, 1) := by decide +kernel
theorem dX7_passOf_2 : decode cX7_passOf 2 = .ok (.sipush 400, 3) := by decide +kernel
theorem dX7_passOf_5 : decode cX7_passOf 5 = .ok (.invokestatic 85, 3) := by decide +kernel
theorem dX7_passOf_8 : decode cX7_passOf 8 = .ok (.ifCond .ne 9, 3) := by decide +kernel
theorem dX7_passOf_11 : decode cX7_passOf 11 = .ok (.aload_n 0, 1) := by decide +kernel
theorem dX7_passOf_12 : decode cX7_passOf 12 = .ok (.iconst 1, 1) := by decide +kernel
theorem dX7_passOf_13 : decode cX7_passOf 13 = .ok (.invokevirtual 69, 3) := by decide +kernel
theorem dX7_passOf_16 : decode cX7_passOf 16 = .ok (.ireturn, 1) := by decide +kernel
theorem dX7_passOf_17 : decode cX7_passOf 17 = .ok (.aload_n 0, 1) := by decide +kernel
theorem dX7_passOf_18 : decode cX7_passOf 18 = .ok (.getfield 10, 3) := by decide +kernel
theorem dX7_passOf_21 : decode cX7_passOf 21 = .ok (.getfield 281, 3) := by decide +kernel
theorem dX7_passOf_24 : decode cX7_passOf 24 = .ok (.iload_n 1, 1) := by decide +kernel
theorem dX7_passOf_25 : decode cX7_passOf 25 = .ok (.iadd, 1) := by decide +kernel
theorem dX7_passOf_26 : decode cX7_passOf 26 = .ok (.sipush 9999, 3) := by decide +kernel
theorem dX7_passOf_29 : decode cX7_passOf 29 = .ok (.if_icmp .le 9, 3) := by decide +kernel
theorem dX7_passOf_32 : decode cX7_passOf 32 = .ok (.aload_n 0, 1) := by decide +kernel
theorem dX7_passOf_33 : decode cX7_passOf 33 = .ok (.iconst 3, 1) := by decide +kernel
theorem dX7_passOf_34 : decode cX7_passOf 34 = .ok (.invokevirtual 69, 3) := by decide +kernel
theorem dX7_passOf_37 : decode cX7_passOf 37 = .ok (.ireturn, 1) := by decide +kernel
theorem dX7_passOf_38 : decode cX7_passOf 38 = .ok (.aload_n 0, 1) := by decide +kernel
theorem dX7_passOf_39 : decode cX7_passOf 39 = .ok (.getfield 10, 3) := by decide +kernel
theorem dX7_passOf_42 : decode cX7_passOf 42 = .ok (.iload_n 1, 1) := by decide +kernel
theorem dX7_passOf_43 : decode cX7_passOf 43 = .ok (.iload_n 2, 1) := by decide +kernel
theorem dX7_passOf_44 : decode cX7_passOf 44 = .ok (.invokevirtual 209, 3) := by decide +kernel
theorem dX7_passOf_47 : decode cX7_passOf 47 = .ok (.aload_n 0, 1) := by decide +kernel
theorem dX7_passOf_48 : decode cX7_passOf 48 = .ok (.getfield 10, 3) := by decide +kernel
theorem dX7_passOf_51 : decode cX7_passOf 51 = .ok (.getfield 200, 3) := by decide +kernel
theorem dX7_passOf_54 : decode cX7_passOf 54 = .ok (.ireturn, 1) := by decide +kernel
theorem dX7_lookAhead_0 : decode cX7_lookAhead 0 = .ok (.aload_n 0, 1) := by decide +kernel
theorem dX7_lookAhead_1 : decode cX7_lookAhead 1 = .ok (.getfield 16, 3) := by decide +kernel
theorem dX7_lookAhead_4 : decode cX7_lookAhead 4 = .ok (.aload_n 0, 1) := by decide +kernel
theorem dX7_lookAhead_5 : decode cX7_lookAhead 5 = .ok (.getfield 10, 3) := by decide +kernel
theorem dX7_lookAhead_8 : decode cX7_lookAhead 8 = .ok (.invokevirtual 206, 3) := by decide +kernel
theorem dX7_lookAhead_11 : decode cX7_lookAhead 11 = .ok (.aload_n 0, 1) := by decide +kernel
theorem dX7_lookAhead_12 : decode cX7_lookAhead 12 = .ok (.getfield 16, 3) := by decide +kernel
theorem dX7_lookAhead_15 : decode cX7_lookAhead 15 = .ok (.iload_n 1, 1) := by decide +kernel
theorem dX7_lookAhead_16 : decode cX7_lookAhead 16 = .ok (.iconst 0, 1) := by decide +kernel
theorem dX7_lookAhead_17 : decode cX7_lookAhead 17 = .ok (.invokevirtual 209, 3) := by decide +kernel
theorem dX7_lookAhead_20 : decode cX7_lookAhead 20 = .ok (.return_, 1) := by decide +kernel
theorem dX7_bestFor_0 : decode cX7_bestFor 0 = .ok (.getstatic 139, 3) := by decide +kernel
theorem dX7_bestFor_3 : decode cX7_bestFor 3 = .ok (.iload_n 1, 1) := by decide +kernel
theorem dX7_bestFor_4 : decode cX7_bestFor 4 = .ok (.iaload, 1) := by decide +kernel
theorem dX7_bestFor_5 : decode cX7_bestFor 5 = .ok (.istore_n 3, 1) := by decide +kernel
theorem dX7_bestFor_6 : decode cX7_bestFor 6 = .ok (.iconst (-1), 1) := by decide +kernel
theorem dX7_bestFor_7 : decode cX7_bestFor 7 = .ok (.istore 4, 2) := by decide +kernel
theorem dX7_bestFor_9 : decode cX7_bestFor 9 = .ok (.getstatic 139, 3) := by decide +kernel
theorem dX7_bestFor_12 : decode cX7_bestFor 12 = .ok (.iload_n 1, 1) := by decide +kernel
theorem dX7_bestFor_13 : decode cX7_bestFor 13 = .ok (.iaload, 1) := by decide +kernel
theorem dX7_bestFor_14 : decode cX7_bestFor 14 = .ok (.istore 5, 2) := by decide +kernel
theorem dX7_bestFor_16 : decode cX7_bestFor 16 = .ok (.iload 5, 2) := by decide +kernel
theorem dX7_bestFor_18 : decode cX7_bestFor 18 = .ok (.getstatic 136, 3) := by decide +kernel
theorem dX7_bestFor_21 : decode cX7_bestFor 21 = .ok (.iload_n 1, 1) := by decide +kernel
theorem dX7_bestFor_22 : decode cX7_bestFor 22 = .ok (.iaload, 1) := by decide +kernel
theorem dX7_bestFor_23 : decode cX7_bestFor 23 = .ok (.if_icmp .gt 64, 3) := by decide +kernel
theorem dX7_bestFor_26 : decode cX7_bestFor 26 = .ok (.aload_n 0, 1) := by decide +kernel
theorem dX7_bestFor_27 : decode cX7_bestFor 27 = .ok (.getfield 16, 3) := by decide +kernel
theorem dX7_bestFor_30 : decode cX7_bestFor 30 = .ok (.aload_n 0, 1) := by decide +kernel
theorem dX7_bestFor_31 : decode cX7_bestFor 31 = .ok (.getfield 10, 3) := by decide +kernel
theorem dX7_bestFor_34 : decode cX7_bestFor 34 = .ok (.invokevirtual 206, 3) := by decide +kernel
theorem dX7_bestFor_37 : decode cX7_bestFor 37 = .ok (.aload_n 0, 1) := by decide +kernel
theorem dX7_bestFor_38 : decode cX7_bestFor 38 = .ok (.getfield 16, 3) := by decide +kernel
theorem dX7_bestFor_41 : decode cX7_bestFor 41 = .ok (.iload_n 1, 1) := by decide +kernel
theorem dX7_bestFor_42 : decode cX7_bestFor 42 = .ok (.iload 5, 2) := by decide +kernel
theorem dX7_bestFor_44 : decode cX7_bestFor 44 = .ok (.invokevirtual 142, 3) := by decide +kernel
theorem dX7_bestFor_47 : decode cX7_bestFor 47 = .ok (.pop, 1) := by decide +kernel
theorem dX7_bestFor_48 : decode cX7_bestFor 48 = .ok (.aload_n 0, 1) := by decide +kernel
theorem dX7_bestFor_49 : decode cX7_bestFor 49 = .ok (.getfield 16, 3) := by decide +kernel
theorem dX7_bestFor_52 : decode cX7_bestFor 52 = .ok (.iload_n 2, 1) := by decide +kernel
theorem dX7_bestFor_53 : decode cX7_bestFor 53 = .ok (.iconst 0, 1) := by decide +kernel
theorem dX7_bestFor_54 : decode cX7_bestFor 54 = .ok (.invokevirtual 209, 3) := by decide +kernel
theorem dX7_bestFor_57 : decode cX7_bestFor 57 = .ok (.aload_n 0, 1) := by decide +kernel
theorem dX7_bestFor_58 : decode cX7_bestFor 58 = .ok (.getfield 16, 3) := by decide +kernel
theorem dX7_bestFor_61 : decode cX7_bestFor 61 = .ok (.getfield 200, 3) := by decide +kernel
theorem dX7_bestFor_64 : decode cX7_bestFor 64 = .ok (.iload 4, 2) := by decide +kernel
theorem dX7_bestFor_66 : decode cX7_bestFor 66 = .ok (.if_icmp .le 15, 3) := by decide +kernel
theorem dX7_bestFor_69 : decode cX7_bestFor 69 = .ok (.aload_n 0, 1) := by decide +kernel
theorem dX7_bestFor_70 : decode cX7_bestFor 70 = .ok (.getfield 16, 3) := by decide +kernel
theorem dX7_bestFor_73 : decode cX7_bestFor 73 = .ok (.getfield 200, 3) := by decide +kernel
theorem dX7_bestFor_76 : decode cX7_bestFor 76 = .ok (.istore 4, 2) := by decide +kernel
theorem dX7_bestFor_78 : decode cX7_bestFor 78 = .ok (.iload 5, 2) := by decide +kernel
theorem dX7_bestFor_80 : decode cX7_bestFor 80 = .ok (.istore_n 3, 1) := by decide +kernel
theorem dX7_bestFor_81 : decode cX7_bestFor 81 = .ok (.iinc 5 1, 3) := by decide +kernel
theorem dX7_bestFor_84 : decode cX7_bestFor 84 = .ok (.goto (-68), 3) := by decide +kernel
theorem dX7_bestFor_87 : decode cX7_bestFor 87 = .ok (.iload_n 3, 1) := by decide +kernel
theorem dX7_bestFor_88 : decode cX7_bestFor 88 = .ok (.ireturn, 1) := by decide +kernel
theorem dX7_leastSteel_0 : decode cX7_leastSteel 0 = .ok (.iconst (-1), 1) := by decide +kernel
theorem dX7_leastSteel_1 : decode cX7_leastSteel 1 = .ok (.istore_n 3, 1) := by decide +kernel
theorem dX7_leastSteel_2 : decode cX7_leastSteel 2 = .ok (.iconst 0, 1) := by decide +kernel
theorem dX7_leastSteel_3 : decode cX7_leastSteel 3 = .ok (.istore 4, 2) := by decide +kernel
theorem dX7_leastSteel_5 : decode cX7_leastSteel 5 = .ok (.aload_n 0, 1) := by decide +kernel
theorem dX7_leastSteel_6 : decode cX7_leastSteel 6 = .ok (.getfield 43, 3) := by decide +kernel
theorem dX7_leastSteel_9 : decode cX7_leastSteel 9 = .ok (.aload_n 1, 1) := by decide +kernel
theorem dX7_leastSteel_10 : decode cX7_leastSteel 10 = .ok (.aload_n 0, 1) := by decide +kernel
theorem dX7_leastSteel_11 : decode cX7_leastSteel 11 = .ok (.getfield 10, 3) := by decide +kernel
theorem dX7_leastSteel_14 : decode cX7_leastSteel 14 = .ok (.getfield 126, 3) := by decide +kernel
theorem dX7_leastSteel_17 : decode cX7_leastSteel 17 = .ok (.invokevirtual 296, 3) := by decide +kernel
theorem dX7_leastSteel_20 : decode cX7_leastSteel 20 = .ok (.iconst 0, 1) := by decide +kernel
theorem dX7_leastSteel_21 : decode cX7_leastSteel 21 = .ok (.istore 5, 2) := by decide +kernel
theorem dX7_leastSteel_23 : decode cX7_leastSteel 23 = .ok (.iload 5, 2) := by decide +kernel
theorem dX7_leastSteel_25 : decode cX7_leastSteel 25 = .ok (.sipush 625, 3) := by decide +kernel
theorem dX7_leastSteel_28 : decode cX7_leastSteel 28 = .ok (.if_icmp .ge 112, 3) := by decide +kernel
theorem dX7_leastSteel_31 : decode cX7_leastSteel 31 = .ok (.iload 5, 2) := by decide +kernel
theorem dX7_leastSteel_33 : decode cX7_leastSteel 33 = .ok (.ifCond .le 10, 3) := by decide +kernel
theorem dX7_leastSteel_36 : decode cX7_leastSteel 36 = .ok (.aload_n 0, 1) := by decide +kernel
theorem dX7_leastSteel_37 : decode cX7_leastSteel 37 = .ok (.getfield 43, 3) := by decide +kernel
theorem dX7_leastSteel_40 : decode cX7_leastSteel 40 = .ok (.invokevirtual 300, 3) := by decide +kernel
theorem dX7_leastSteel_43 : decode cX7_leastSteel 43 = .ok (.aload_n 0, 1) := by decide +kernel
theorem dX7_leastSteel_44 : decode cX7_leastSteel 44 = .ok (.getfield 43, 3) := by decide +kernel
theorem dX7_leastSteel_47 : decode cX7_leastSteel 47 = .ok (.invokevirtual 303, 3) := by decide +kernel
theorem dX7_leastSteel_50 : decode cX7_leastSteel 50 = .ok (.astore 6, 2) := by decide +kernel
theorem dX7_leastSteel_52 : decode cX7_leastSteel 52 = .ok (.aload 6, 2) := by decide +kernel
theorem dX7_leastSteel_54 : decode cX7_leastSteel 54 = .ok (.getfield 133, 3) := by decide +kernel
theorem dX7_leastSteel_57 : decode cX7_leastSteel 57 = .ok (.iload_n 2, 1) := by decide +kernel
theorem dX7_leastSteel_58 : decode cX7_leastSteel 58 = .ok (.if_icmp .lt 76, 3) := by decide +kernel
theorem dX7_leastSteel_61 : decode cX7_leastSteel 61 = .ok (.aload 6, 2) := by decide +kernel
theorem dX7_leastSteel_63 : decode cX7_leastSteel 63 = .ok (.getfield 106, 3) := by decide +kernel
theorem dX7_leastSteel_66 : decode cX7_leastSteel 66 = .ok (.aload_n 1, 1) := by decide +kernel
theorem dX7_leastSteel_67 : decode cX7_leastSteel 67 = .ok (.getfield 106, 3) := by decide +kernel
theorem dX7_leastSteel_70 : decode cX7_leastSteel 70 = .ok (.if_icmp .eq 6, 3) := by decide +kernel
theorem dX7_leastSteel_73 : decode cX7_leastSteel 73 = .ok (.goto 61, 3) := by decide +kernel
theorem dX7_leastSteel_76 : decode cX7_leastSteel 76 = .ok (.aload_n 1, 1) := by decide +kernel
theorem dX7_leastSteel_77 : decode cX7_leastSteel 77 = .ok (.getfield 225, 3) := by decide +kernel
theorem dX7_leastSteel_80 : decode cX7_leastSteel 80 = .ok (.aload 6, 2) := by decide +kernel
theorem dX7_leastSteel_82 : decode cX7_leastSteel 82 = .ok (.getfield 225, 3) := by decide +kernel
theorem dX7_leastSteel_85 : decode cX7_leastSteel 85 = .ok (.isub, 1) := by decide +kernel
theorem dX7_leastSteel_86 : decode cX7_leastSteel 86 = .ok (.istore 7, 2) := by decide +kernel
theorem dX7_leastSteel_88 : decode cX7_leastSteel 88 = .ok (.aload_n 0, 1) := by decide +kernel
theorem dX7_leastSteel_89 : decode cX7_leastSteel 89 = .ok (.getfield 43, 3) := by decide +kernel
theorem dX7_leastSteel_92 : decode cX7_leastSteel 92 = .ok (.invokevirtual 307, 3) := by decide +kernel
theorem dX7_leastSteel_95 : decode cX7_leastSteel 95 = .ok (.istore 8, 2) := by decide +kernel
theorem dX7_leastSteel_97 : decode cX7_leastSteel 97 = .ok (.iload_n 3, 1) := by decide +kernel
theorem dX7_leastSteel_98 : decode cX7_leastSteel 98 = .ok (.ifCond .lt 22, 3) := by decide +kernel
theorem dX7_leastSteel_101 : decode cX7_leastSteel 101 = .ok (.iload 7, 2) := by decide +kernel
theorem dX7_leastSteel_103 : decode cX7_leastSteel 103 = .ok (.iload_n 3, 1) := by decide +kernel
theorem dX7_leastSteel_104 : decode cX7_leastSteel 104 = .ok (.if_icmp .lt 16, 3) := by decide +kernel
theorem dX7_leastSteel_107 : decode cX7_leastSteel 107 = .ok (.iload 7, 2) := by decide +kernel
theorem dX7_leastSteel_109 : decode cX7_leastSteel 109 = .ok (.iload_n 3, 1) := by decide +kernel
theorem dX7_leastSteel_110 : decode cX7_leastSteel 110 = .ok (.if_icmp .ne 24, 3) := by decide +kernel
theorem dX7_leastSteel_113 : decode cX7_leastSteel 113 = .ok (.iload 8, 2) := by decide +kernel
theorem dX7_leastSteel_115 : decode cX7_leastSteel 115 = .ok (.iload 4, 2) := by decide +kernel
theorem dX7_leastSteel_117 : decode cX7_leastSteel 117 = .ok (.if_icmp .ge 17, 3) := by decide +kernel
theorem dX7_leastSteel_120 : decode cX7_leastSteel 120 = .ok (.iload 7, 2) := by decide +kernel
theorem dX7_leastSteel_122 : decode cX7_leastSteel 122 = .ok (.istore_n 3, 1) := by decide +kernel
theorem dX7_leastSteel_123 : decode cX7_leastSteel 123 = .ok (.iload 8, 2) := by decide +kernel
theorem dX7_leastSteel_125 : decode cX7_leastSteel 125 = .ok (.istore 4, 2) := by decide +kernel
theorem dX7_leastSteel_127 : decode cX7_leastSteel 127 = .ok (.aload_n 0, 1) := by decide +kernel
theorem dX7_leastSteel_128 : decode cX7_leastSteel 128 = .ok (.getfield 43, 3) := by decide +kernel
theorem dX7_leastSteel_131 : decode cX7_leastSteel 131 = .ok (.invokevirtual 310, 3) := by decide +kernel
theorem dX7_leastSteel_134 : decode cX7_leastSteel 134 = .ok (.iinc 5 1, 3) := by decide +kernel
theorem dX7_leastSteel_137 : decode cX7_leastSteel 137 = .ok (.goto (-114), 3) := by decide +kernel
theorem dX7_leastSteel_140 : decode cX7_leastSteel 140 = .ok (.iload_n 3, 1) := by decide +kernel
theorem dX7_leastSteel_141 : decode cX7_leastSteel 141 = .ok (.ireturn, 1) := by decide +kernel
theorem dX7_waysFrom_0 : decode cX7_waysFrom 0 = .ok (.aload_n 0, 1) := by decide +kernel
theorem dX7_waysFrom_1 : decode cX7_waysFrom 1 = .ok (.getfield 36, 3) := by decide +kernel
theorem dX7_waysFrom_4 : decode cX7_waysFrom 4 = .ok (.aload_n 1, 1) := by decide +kernel
theorem dX7_waysFrom_5 : decode cX7_waysFrom 5 = .ok (.invokevirtual 219, 3) := by decide +kernel
theorem dX7_waysFrom_8 : decode cX7_waysFrom 8 = .ok (.aload_n 0, 1) := by decide +kernel
theorem dX7_waysFrom_9 : decode cX7_waysFrom 9 = .ok (.getfield 36, 3) := by decide +kernel
theorem dX7_waysFrom_12 : decode cX7_waysFrom 12 = .ok (.iload_n 2, 1) := by decide +kernel
theorem dX7_waysFrom_13 : decode cX7_waysFrom 13 = .ok (.putfield 133, 3) := by decide +kernel
theorem dX7_waysFrom_16 : decode cX7_waysFrom 16 = .ok (.aload_n 0, 1) := by decide +kernel
theorem dX7_waysFrom_17 : decode cX7_waysFrom 17 = .ok (.getfield 36, 3) := by decide +kernel
theorem dX7_waysFrom_20 : decode cX7_waysFrom 20 = .ok (.iload_n 3, 1) := by decide +kernel
theorem dX7_waysFrom_21 : decode cX7_waysFrom 21 = .ok (.putfield 225, 3) := by decide +kernel
theorem dX7_waysFrom_24 : decode cX7_waysFrom 24 = .ok (.aload_n 0, 1) := by decide +kernel
theorem dX7_waysFrom_25 : decode cX7_waysFrom 25 = .ok (.getfield 36, 3) := by decide +kernel
theorem dX7_waysFrom_28 : decode cX7_waysFrom 28 = .ok (.iconst 0, 1) := by decide +kernel
theorem dX7_waysFrom_29 : decode cX7_waysFrom 29 = .ok (.putfield 228, 3) := by decide +kernel
theorem dX7_waysFrom_32 : decode cX7_waysFrom 32 = .ok (.iconst 0, 1) := by decide +kernel
theorem dX7_waysFrom_33 : decode cX7_waysFrom 33 = .ok (.istore 4, 2) := by decide +kernel
theorem dX7_waysFrom_35 : decode cX7_waysFrom 35 = .ok (.aload_n 0, 1) := by decide +kernel
theorem dX7_waysFrom_36 : decode cX7_waysFrom 36 = .ok (.getfield 43, 3) := by decide +kernel
theorem dX7_waysFrom_39 : decode cX7_waysFrom 39 = .ok (.aload_n 0, 1) := by decide +kernel
theorem dX7_waysFrom_40 : decode cX7_waysFrom 40 = .ok (.getfield 36, 3) := by decide +kernel
theorem dX7_waysFrom_43 : decode cX7_waysFrom 43 = .ok (.aload_n 0, 1) := by decide +kernel
theorem dX7_waysFrom_44 : decode cX7_waysFrom 44 = .ok (.getfield 10, 3) := by decide +kernel
theorem dX7_waysFrom_47 : decode cX7_waysFrom 47 = .ok (.getfield 126, 3) := by decide +kernel
theorem dX7_waysFrom_50 : decode cX7_waysFrom 50 = .ok (.invokevirtual 296, 3) := by decide +kernel
theorem dX7_waysFrom_53 : decode cX7_waysFrom 53 = .ok (.iconst 0, 1) := by decide +kernel
theorem dX7_waysFrom_54 : decode cX7_waysFrom 54 = .ok (.istore 5, 2) := by decide +kernel
theorem dX7_waysFrom_56 : decode cX7_waysFrom 56 = .ok (.iload 5, 2) := by decide +kernel
theorem dX7_waysFrom_58 : decode cX7_waysFrom 58 = .ok (.sipush 625, 3) := by decide +kernel
theorem dX7_waysFrom_61 : decode cX7_waysFrom 61 = .ok (.if_icmp .ge 72, 3) := by decide +kernel
theorem dX7_waysFrom_64 : decode cX7_waysFrom 64 = .ok (.iload 5, 2) := by decide +kernel
theorem dX7_waysFrom_66 : decode cX7_waysFrom 66 = .ok (.ifCond .le 10, 3) := by decide +kernel
theorem dX7_waysFrom_69 : decode cX7_waysFrom 69 = .ok (.aload_n 0, 1) := by decide +kernel
theorem dX7_waysFrom_70 : decode cX7_waysFrom 70 = .ok (.getfield 43, 3) := by decide +kernel
theorem dX7_waysFrom_73 : decode cX7_waysFrom 73 = .ok (.invokevirtual 300, 3) := by decide +kernel
theorem dX7_waysFrom_76 : decode cX7_waysFrom 76 = .ok (.aload_n 0, 1) := by decide +kernel
theorem dX7_waysFrom_77 : decode cX7_waysFrom 77 = .ok (.getfield 43, 3) := by decide +kernel
theorem dX7_waysFrom_80 : decode cX7_waysFrom 80 = .ok (.invokevirtual 303, 3) := by decide +kernel
theorem dX7_waysFrom_83 : decode cX7_waysFrom 83 = .ok (.astore 6, 2) := by decide +kernel
theorem dX7_waysFrom_85 : decode cX7_waysFrom 85 = .ok (.aload 6, 2) := by decide +kernel
theorem dX7_waysFrom_87 : decode cX7_waysFrom 87 = .ok (.getfield 133, 3) := by decide +kernel
theorem dX7_waysFrom_90 : decode cX7_waysFrom 90 = .ok (.aload_n 1, 1) := by decide +kernel
theorem dX7_waysFrom_91 : decode cX7_waysFrom 91 = .ok (.getfield 133, 3) := by decide +kernel
theorem dX7_waysFrom_94 : decode cX7_waysFrom 94 = .ok (.if_icmp .ne 33, 3) := by decide +kernel
theorem dX7_waysFrom_97 : decode cX7_waysFrom 97 = .ok (.aload 6, 2) := by decide +kernel
theorem dX7_waysFrom_99 : decode cX7_waysFrom 99 = .ok (.getfield 225, 3) := by decide +kernel
theorem dX7_waysFrom_102 : decode cX7_waysFrom 102 = .ok (.aload_n 1, 1) := by decide +kernel
theorem dX7_waysFrom_103 : decode cX7_waysFrom 103 = .ok (.getfield 225, 3) := by decide +kernel
theorem dX7_waysFrom_106 : decode cX7_waysFrom 106 = .ok (.if_icmp .eq 6, 3) := by decide +kernel
theorem dX7_waysFrom_109 : decode cX7_waysFrom 109 = .ok (.goto 18, 3) := by decide +kernel
theorem dX7_waysFrom_112 : decode cX7_waysFrom 112 = .ok (.iload 4, 2) := by decide +kernel
theorem dX7_waysFrom_114 : decode cX7_waysFrom 114 = .ok (.ifCond .ne 10, 3) := by decide +kernel
theorem dX7_waysFrom_117 : decode cX7_waysFrom 117 = .ok (.aload_n 0, 1) := by decide +kernel
theorem dX7_waysFrom_118 : decode cX7_waysFrom 118 = .ok (.getfield 43, 3) := by decide +kernel
theorem dX7_waysFrom_121 : decode cX7_waysFrom 121 = .ok (.invokevirtual 310, 3) := by decide +kernel
theorem dX7_waysFrom_124 : decode cX7_waysFrom 124 = .ok (.iinc 4 1, 3) := by decide +kernel
theorem dX7_waysFrom_127 : decode cX7_waysFrom 127 = .ok (.iinc 5 1, 3) := by decide +kernel
theorem dX7_waysFrom_130 : decode cX7_waysFrom 130 = .ok (.goto (-74), 3) := by decide +kernel
theorem dX7_waysFrom_133 : decode cX7_waysFrom 133 = .ok (.iload 4, 2) := by decide +kernel
theorem dX7_waysFrom_135 : decode cX7_waysFrom 135 = .ok (.ireturn, 1) := by decide +kernel
theorem dX7_isWithin_0 : decode cX7_isWithin 0 = .ok (.iload_n 0, 1) := by decide +kernel
theorem dX7_isWithin_1 : decode cX7_isWithin 1 = .ok (.iload_n 1, 1) := by decide +kernel
theorem dX7_isWithin_2 : decode cX7_isWithin 2 = .ok (.if_icmp .lt 12, 3) := by decide +kernel
theorem dX7_isWithin_5 : decode cX7_isWithin 5 = .ok (.iload_n 0, 1) := by decide +kernel
theorem dX7_isWithin_6 : decode cX7_isWithin 6 = .ok (.iload_n 2, 1) := by decide +kernel
theorem dX7_isWithin_7 : decode cX7_isWithin 7 = .ok (.if_icmp .gt 7, 3) := by decide +kernel
theorem dX7_isWithin_10 : decode cX7_isWithin 10 = .ok (.iconst 1, 1) := by decide +kernel
theorem dX7_isWithin_11 : decode cX7_isWithin 11 = .ok (.goto 4, 3) := by decide +kernel
theorem dX7_isWithin_14 : decode cX7_isWithin 14 = .ok (.iconst 0, 1) := by decide +kernel
theorem dX7_isWithin_15 : decode cX7_isWithin 15 = .ok (.ireturn, 1) := by decide +kernel
theorem dX7_held_0 : decode cX7_held 0 = .ok (.iload_n 1, 1) := by decide +kernel
theorem dX7_held_1 : decode cX7_held 1 = .ok (.iload_n 2, 1) := by decide +kernel
theorem dX7_held_2 : decode cX7_held 2 = .ok (.iload_n 0, 1) := by decide +kernel
theorem dX7_held_3 : decode cX7_held 3 = .ok (.invokestatic 313, 3) := by decide +kernel
theorem dX7_held_6 : decode cX7_held 6 = .ok (.invokestatic 318, 3) := by decide +kernel
theorem dX7_held_9 : decode cX7_held 9 = .ok (.ireturn, 1) := by decide +kernel
theorem dX7_isNewKnife_0 : decode cX7_isNewKnife 0 = .ok (.iload_n 2, 1) := by decide +kernel
theorem dX7_isNewKnife_1 : decode cX7_isNewKnife 1 = .ok (.ifCond .lt 24, 3) := by decide +kernel
theorem dX7_isNewKnife_4 : decode cX7_isNewKnife 4 = .ok (.iload_n 2, 1) := by decide +kernel
theorem dX7_isNewKnife_5 : decode cX7_isNewKnife 5 = .ok (.bipush 10, 2) := by decide +kernel
theorem dX7_isNewKnife_7 : decode cX7_isNewKnife 7 = .ok (.idiv, 1) := by decide +kernel
theorem dX7_isNewKnife_8 : decode cX7_isNewKnife 8 = .ok (.bipush 9, 2) := by decide +kernel
theorem dX7_isNewKnife_10 : decode cX7_isNewKnife 10 = .ok (.if_icmp .gt 15, 3) := by decide +kernel
theorem dX7_isNewKnife_13 : decode cX7_isNewKnife 13 = .ok (.iload_n 2, 1) := by decide +kernel
theorem dX7_isNewKnife_14 : decode cX7_isNewKnife 14 = .ok (.bipush 10, 2) := by decide +kernel
theorem dX7_isNewKnife_16 : decode cX7_isNewKnife 16 = .ok (.irem, 1) := by decide +kernel
theorem dX7_isNewKnife_17 : decode cX7_isNewKnife 17 = .ok (.iconst 3, 1) := by decide +kernel
theorem dX7_isNewKnife_18 : decode cX7_isNewKnife 18 = .ok (.if_icmp .gt 7, 3) := by decide +kernel
theorem dX7_isNewKnife_21 : decode cX7_isNewKnife 21 = .ok (.iconst 1, 1) := by decide +kernel
theorem dX7_isNewKnife_22 : decode cX7_isNewKnife 22 = .ok (.goto 4, 3) := by decide +kernel
theorem dX7_isNewKnife_25 : decode cX7_isNewKnife 25 = .ok (.iconst 0, 1) := by decide +kernel
theorem dX7_isNewKnife_26 : decode cX7_isNewKnife 26 = .ok (.istore_n 3, 1) := by decide +kernel
theorem dX7_isNewKnife_27 : decode cX7_isNewKnife 27 = .ok (.iload_n 3, 1) := by decide +kernel
theorem dX7_isNewKnife_28 : decode cX7_isNewKnife 28 = .ok (.ifCond .eq 26, 3) := by decide +kernel
theorem dX7_isNewKnife_31 : decode cX7_isNewKnife 31 = .ok (.iload_n 0, 1) := by decide +kernel
theorem dX7_isNewKnife_32 : decode cX7_isNewKnife 32 = .ok (.iconst 0, 1) := by decide +kernel
theorem dX7_isNewKnife_33 : decode cX7_isNewKnife 33 = .ok (.bipush 69, 2) := by decide +kernel
theorem dX7_isNewKnife_35 : decode cX7_isNewKnife 35 = .ok (.invokestatic 85, 3) := by decide +kernel
theorem dX7_isNewKnife_38 : decode cX7_isNewKnife 38 = .ok (.ifCond .eq 16, 3) := by decide +kernel
theorem dX7_isNewKnife_41 : decode cX7_isNewKnife 41 = .ok (.iload_n 1, 1) := by decide +kernel
theorem dX7_isNewKnife_42 : decode cX7_isNewKnife 42 = .ok (.iconst 0, 1) := by decide +kernel
theorem dX7_isNewKnife_43 : decode cX7_isNewKnife 43 = .ok (.iconst 5, 1) := by decide +kernel
theorem dX7_isNewKnife_44 : decode cX7_isNewKnife 44 = .ok (.invokestatic 85, 3) := by decide +kernel
theorem dX7_isNewKnife_47 : decode cX7_isNewKnife 47 = .ok (.ifCond .eq 7, 3) := by decide +kernel
theorem dX7_isNewKnife_50 : decode cX7_isNewKnife 50 = .ok (.iconst 1, 1) := by decide +kernel
theorem dX7_isNewKnife_51 : decode cX7_isNewKnife 51 = .ok (.goto 4, 3) := by decide +kernel
theorem dX7_isNewKnife_54 : decode cX7_isNewKnife 54 = .ok (.iconst 0, 1) := by decide +kernel
theorem dX7_isNewKnife_55 : decode cX7_isNewKnife 55 = .ok (.ireturn, 1) := by decide +kernel
theorem dX7_isStone_0 : decode cX7_isStone 0 = .ok (.iload_n 0, 1) := by decide +kernel
theorem dX7_isStone_1 : decode cX7_isStone 1 = .ok (.iconst 0, 1) := by decide +kernel
theorem dX7_isStone_2 : decode cX7_isStone 2 = .ok (.iconst 3, 1) := by decide +kernel
theorem dX7_isStone_3 : decode cX7_isStone 3 = .ok (.invokestatic 85, 3) := by decide +kernel
theorem dX7_isStone_6 : decode cX7_isStone 6 = .ok (.ireturn, 1) := by decide +kernel
theorem dX7_isUse_0 : decode cX7_isUse 0 = .ok (.iload_n 0, 1) := by decide +kernel
theorem dX7_isUse_1 : decode cX7_isUse 1 = .ok (.ifCond .eq 8, 3) := by decide +kernel
theorem dX7_isUse_4 : decode cX7_isUse 4 = .ok (.iload_n 0, 1) := by decide +kernel
theorem dX7_isUse_5 : decode cX7_isUse 5 = .ok (.iconst 1, 1) := by decide +kernel
theorem dX7_isUse_6 : decode cX7_isUse 6 = .ok (.if_icmp .ne 7, 3) := by decide +kernel
theorem dX7_isUse_9 : decode cX7_isUse 9 = .ok (.iconst 1, 1) := by decide +kernel
theorem dX7_isUse_10 : decode cX7_isUse 10 = .ok (.goto 4, 3) := by decide +kernel
theorem dX7_isUse_13 : decode cX7_isUse 13 = .ok (.iconst 0, 1) := by decide +kernel
theorem dX7_isUse_14 : decode cX7_isUse 14 = .ok (.ireturn, 1) := by decide +kernel
theorem dX7_isAhead_0 : decode cX7_isAhead 0 = .ok (.iload_n 0, 1) := by decide +kernel
theorem dX7_isAhead_1 : decode cX7_isAhead 1 = .ok (.iconst 0, 1) := by decide +kernel
theorem dX7_isAhead_2 : decode cX7_isAhead 2 = .ok (.sipush 400, 3) := by decide +kernel
theorem dX7_isAhead_5 : decode cX7_isAhead 5 = .ok (.invokestatic 85, 3) := by decide +kernel
theorem dX7_isAhead_8 : decode cX7_isAhead 8 = .ok (.ireturn, 1) := by decide +kernel
theorem dX7_isSheet_0 : decode cX7_isSheet 0 = .ok (.iload_n 0, 1) := by decide +kernel
theorem dX7_isSheet_1 : decode cX7_isSheet 1 = .ok (.iconst 0, 1) := by decide +kernel
theorem dX7_isSheet_2 : decode cX7_isSheet 2 = .ok (.iconst 3, 1) := by decide +kernel
theorem dX7_isSheet_3 : decode cX7_isSheet 3 = .ok (.invokestatic 85, 3) := by decide +kernel
theorem dX7_isSheet_6 : decode cX7_isSheet 6 = .ok (.ireturn, 1) := by decide +kernel
theorem dX7_isBits_0 : decode cX7_isBits 0 = .ok (.iload_n 0, 1) := by decide +kernel
theorem dX7_isBits_1 : decode cX7_isBits 1 = .ok (.ifCond .eq 21, 3) := by decide +kernel
theorem dX7_isBits_4 : decode cX7_isBits 4 = .ok (.iload_n 0, 1) := by decide +kernel
theorem dX7_isBits_5 : decode cX7_isBits 5 = .ok (.bipush 8, 2) := by decide +kernel
theorem dX7_isBits_7 : decode cX7_isBits 7 = .ok (.if_icmp .eq 15, 3) := by decide +kernel
theorem dX7_isBits_10 : decode cX7_isBits 10 = .ok (.iload_n 0, 1) := by decide +kernel
theorem dX7_isBits_11 : decode cX7_isBits 11 = .ok (.bipush 16, 2) := by decide +kernel
theorem dX7_isBits_13 : decode cX7_isBits 13 = .ok (.if_icmp .eq 9, 3) := by decide +kernel
theorem dX7_isBits_16 : decode cX7_isBits 16 = .ok (.iload_n 0, 1) := by decide +kernel
theorem dX7_isBits_17 : decode cX7_isBits 17 = .ok (.bipush 32, 2) := by decide +kernel
theorem dX7_isBits_19 : decode cX7_isBits 19 = .ok (.if_icmp .ne 7, 3) := by decide +kernel
theorem dX7_isBits_22 : decode cX7_isBits 22 = .ok (.iconst 1, 1) := by decide +kernel
theorem dX7_isBits_23 : decode cX7_isBits 23 = .ok (.goto 4, 3) := by decide +kernel
theorem dX7_isBits_26 : decode cX7_isBits 26 = .ok (.iconst 0, 1) := by decide +kernel
theorem dX7_isBits_27 : decode cX7_isBits 27 = .ok (.ireturn, 1) := by decide +kernel
theorem dX7_isOfKind_0 : decode cX7_isOfKind 0 = .ok (.iload_n 0, 1) := by decide +kernel
theorem dX7_isOfKind_1 : decode cX7_isOfKind 1 = .ok (.istore_n 2, 1) := by decide +kernel
theorem dX7_isOfKind_2 : decode cX7_isOfKind 2 = .ok (.iconst 0, 1) := by decide +kernel
theorem dX7_isOfKind_3 : decode cX7_isOfKind 3 = .ok (.istore_n 3, 1) := by decide +kernel
theorem dX7_isOfKind_4 : decode cX7_isOfKind 4 = .ok (.iload_n 3, 1) := by decide +kernel
theorem dX7_isOfKind_5 : decode cX7_isOfKind 5 = .ok (.getstatic 321, 3) := by decide +kernel
theorem dX7_isOfKind_8 : decode cX7_isOfKind 8 = .ok (.arraylength, 1) := by decide +kernel
theorem dX7_isOfKind_9 : decode cX7_isOfKind 9 = .ok (.if_icmp .ge 32, 3) := by decide +kernel
theorem dX7_isOfKind_12 : decode cX7_isOfKind 12 = .ok (.iload_n 2, 1) := by decide +kernel
theorem dX7_isOfKind_13 : decode cX7_isOfKind 13 = .ok (.iconst 0, 1) := by decide +kernel
theorem dX7_isOfKind_14 : decode cX7_isOfKind 14 = .ok (.bipush 6, 2) := by decide +kernel
theorem dX7_isOfKind_16 : decode cX7_isOfKind 16 = .ok (.invokestatic 85, 3) := by decide +kernel
theorem dX7_isOfKind_19 : decode cX7_isOfKind 19 = .ok (.ifCond .eq 22, 3) := by decide +kernel
theorem dX7_isOfKind_22 : decode cX7_isOfKind 22 = .ok (.iload_n 2, 1) := by decide +kernel
theorem dX7_isOfKind_23 : decode cX7_isOfKind 23 = .ok (.iload_n 1, 1) := by decide +kernel
theorem dX7_isOfKind_24 : decode cX7_isOfKind 24 = .ok (.if_icmp .ne 5, 3) := by decide +kernel
theorem dX7_isOfKind_27 : decode cX7_isOfKind 27 = .ok (.iconst 1, 1) := by decide +kernel
theorem dX7_isOfKind_28 : decode cX7_isOfKind 28 = .ok (.ireturn, 1) := by decide +kernel
theorem dX7_isOfKind_29 : decode cX7_isOfKind 29 = .ok (.getstatic 321, 3) := by decide +kernel
theorem dX7_isOfKind_32 : decode cX7_isOfKind 32 = .ok (.iload_n 2, 1) := by decide +kernel
theorem dX7_isOfKind_33 : decode cX7_isOfKind 33 = .ok (.iaload, 1) := by decide +kernel
theorem dX7_isOfKind_34 : decode cX7_isOfKind 34 = .ok (.istore_n 2, 1) := by decide +kernel
theorem dX7_isOfKind_35 : decode cX7_isOfKind 35 = .ok (.iinc 3 1, 3) := by decide +kernel
theorem dX7_isOfKind_38 : decode cX7_isOfKind 38 = .ok (.goto (-34), 3) := by decide +kernel
theorem dX7_isOfKind_41 : decode cX7_isOfKind 41 = .ok (.iconst 0, 1) := by decide +kernel
theorem dX7_isOfKind_42 : decode cX7_isOfKind 42 = .ok (.ireturn, 1) := by decide +kernel
theorem dX8_init_0 : decode cX8_init 0 = .ok (.aload_n 0, 1) := by decide +kernel
theorem dX8_init_1 : decode cX8_init 1 = .ok (.invokespecial 1, 3) := by decide +kernel
theorem dX8_init_4 : decode cX8_init 4 = .ok (.aload_n 0, 1) := by decide +kernel
theorem dX8_init_5 : decode cX8_init 5 = .ok (.sipush 260, 3) := by decide +kernel
theorem dX8_init_8 : decode cX8_init 8 = .ok (.newarray .int, 2) := by decide +kernel
theorem dX8_init_10 : decode cX8_init 10 = .ok (.putfield 7, 3) := by decide +kernel
theorem dX8_init_13 : decode cX8_init 13 = .ok (.aload_n 0, 1) := by decide +kernel
theorem dX8_init_14 : decode cX8_init 14 = .ok (.sipush 260, 3) := by decide +kernel
theorem dX8_init_17 : decode cX8_init 17 = .ok (.newarray .int, 2) := by decide +kernel
theorem dX8_init_19 : decode cX8_init 19 = .ok (.putfield 13, 3) := by decide +kernel
theorem dX8_init_22 : decode cX8_init 22 = .ok (.aload_n 0, 1) := by decide +kernel
theorem dX8_init_23 : decode cX8_init 23 = .ok (.sipush 260, 3) := by decide +kernel
theorem dX8_init_26 : decode cX8_init 26 = .ok (.newarray .int, 2) := by decide +kernel
theorem dX8_init_28 : decode cX8_init 28 = .ok (.putfield 16, 3) := by decide +kernel
theorem dX8_init_31 : decode cX8_init 31 = .ok (.aload_n 0, 1) := by decide +kernel
theorem dX8_init_32 : decode cX8_init 32 = .ok (.bipush 6, 2) := by decide +kernel
theorem dX8_init_34 : decode cX8_init 34 = .ok (.newarray .int, 2) := by decide +kernel
theorem dX8_init_36 : decode cX8_init 36 = .ok (.putfield 19, 3) := by decide +kernel
theorem dX8_init_39 : decode cX8_init 39 = .ok (.aload_n 0, 1) := by decide +kernel
theorem dX8_init_40 : decode cX8_init 40 = .ok (.iconst 4, 1) := by decide +kernel
theorem dX8_init_41 : decode cX8_init 41 = .ok (.newarray .int, 2) := by decide +kernel
theorem dX8_init_43 : decode cX8_init 43 = .ok (.putfield 22, 3) := by decide +kernel
theorem dX8_init_46 : decode cX8_init 46 = .ok (.aload_n 0, 1) := by decide +kernel
theorem dX8_init_47 : decode cX8_init 47 = .ok (.bipush 60, 2) := by decide +kernel
theorem dX8_init_49 : decode cX8_init 49 = .ok (.newarray .int, 2) := by decide +kernel
theorem dX8_init_51 : decode cX8_init 51 = .ok (.putfield 25, 3) := by decide +kernel
theorem dX8_init_54 : decode cX8_init 54 = .ok (.aload_n 0, 1) := by decide +kernel
theorem dX8_init_55 : decode cX8_init 55 = .ok (.bipush 60, 2) := by decide +kernel
theorem dX8_init_57 : decode cX8_init 57 = .ok (.newarray .int, 2) := by decide +kernel
theorem dX8_init_59 : decode cX8_init 59 = .ok (.putfield 28, 3) := by decide +kernel
theorem dX8_init_62 : decode cX8_init 62 = .ok (.aload_n 0, 1) := by decide +kernel
theorem dX8_init_63 : decode cX8_init 63 = .ok (.bipush 8, 2) := by decide +kernel
theorem dX8_init_65 : decode cX8_init 65 = .ok (.newarray .int, 2) := by decide +kernel
theorem dX8_init_67 : decode cX8_init 67 = .ok (.putfield 31, 3) := by decide +kernel
theorem dX8_init_70 : decode cX8_init 70 = .ok (.aload_n 0, 1) := by decide +kernel
theorem dX8_init_71 : decode cX8_init 71 = .ok (.bipush 40, 2) := by decide +kernel
theorem dX8_init_73 : decode cX8_init 73 = .ok (.newarray .int, 2) := by decide +kernel
theorem dX8_init_75 : decode cX8_init 75 = .ok (.putfield 34, 3) := by decide +kernel
theorem dX8_init_78 : decode cX8_init 78 = .ok (.aload_n 0, 1) := by decide +kernel
theorem dX8_init_79 : decode cX8_init 79 = .ok (.iconst 4, 1) := by decide +kernel
theorem dX8_init_80 : decode cX8_init 80 = .ok (.newarray .int, 2) := by decide +kernel
theorem dX8_init_82 : decode cX8_init 82 = .ok (.putfield 37, 3) := by decide +kernel
theorem dX8_init_85 : decode cX8_init 85 = .ok (.aload_n 0, 1) := by decide +kernel
theorem dX8_init_86 : decode cX8_init 86 = .ok (.iconst 4, 1) := by decide +kernel
theorem dX8_init_87 : decode cX8_init 87 = .ok (.newarray .int, 2) := by decide +kernel
theorem dX8_init_89 : decode cX8_init 89 = .ok (.putfield 40, 3) := by decide +kernel
theorem dX8_init_92 : decode cX8_init 92 = .ok (.aload_n 0, 1) := by decide +kernel
theorem dX8_init_93 : decode cX8_init 93 = .ok (.sipush 160, 3) := by decide +kernel
theorem dX8_init_96 : decode cX8_init 96 = .ok (.newarray .int, 2) := by decide +kernel
theorem dX8_init_98 : decode cX8_init 98 = .ok (.putfield 43, 3) := by decide +kernel
theorem dX8_init_101 : decode cX8_init 101 = .ok (.aload_n 0, 1) := by decide +kernel
theorem dX8_init_102 : decode cX8_init 102 = .ok (.bipush 40, 2) := by decide +kernel
theorem dX8_init_104 : decode cX8_init 104 = .ok (.newarray .int, 2) := by decide +kernel
theorem dX8_init_106 : decode cX8_init 106 = .ok (.putfield 46, 3) := by decide +kernel
theorem dX8_init_109 : decode cX8_init 109 = .ok (.iconst 0, 1) := by decide +kernel
theorem dX8_init_110 : decode cX8_init 110 = .ok (.istore_n 1, 1) := by decide +kernel
theorem dX8_init_111 : decode cX8_init 111 = .ok (.iload_n 1, 1) := by decide +kernel
theorem dX8_init_112 : decode cX8_init 112 = .ok (.iconst 4, 1) := by decide +kernel
theorem dX8_init_113 : decode cX8_init 113 = .ok (.if_icmp .ge 18, 3) := by decide +kernel
theorem dX8_init_116 : decode cX8_init 116 = .ok (.aload_n 0, 1) := by decide +kernel
theorem dX8_init_117 : decode cX8_init 117 = .ok (.getfield 7, 3) := by decide +kernel
theorem dX8_init_120 : decode cX8_init 120 = .ok (.iconst 0, 1) := by decide +kernel
theorem dX8_init_121 : decode cX8_init 121 = .ok (.iload_n 1, 1) := by decide +kernel
theorem dX8_init_122 : decode cX8_init 122 = .ok (.iadd, 1) := by decide +kernel
theorem dX8_init_123 : decode cX8_init 123 = .ok (.iconst 1, 1) := by decide +kernel
theorem dX8_init_124 : decode cX8_init 124 = .ok (.iastore, 1) := by decide +kernel
theorem dX8_init_125 : decode cX8_init 125 = .ok (.iinc 1 1, 3) := by decide +kernel
theorem dX8_init_128 : decode cX8_init 128 = .ok (.goto (-17), 3) := by decide +kernel
theorem dX8_init_131 : decode cX8_init 131 = .ok (.aload_n 0, 1) := by decide +kernel
theorem dX8_init_132 : decode cX8_init 132 = .ok (.getfield 7, 3) := by decide +kernel
theorem dX8_init_135 : decode cX8_init 135 = .ok (.iconst 4, 1) := by decide +kernel
theorem dX8_init_136 : decode cX8_init 136 = .ok (.iconst 4, 1) := by decide +kernel
theorem dX8_init_137 : decode cX8_init 137 = .ok (.iastore, 1) := by decide +kernel
theorem dX8_init_138 : decode cX8_init 138 = .ok (.aload_n 0, 1) := by decide +kernel
theorem dX8_init_139 : decode cX8_init 139 = .ok (.getfield 7, 3) := by decide +kernel
theorem dX8_init_142 : decode cX8_init 142 = .ok (.iconst 5, 1) := by decide +kernel
theorem dX8_init_143 : decode cX8_init 143 = .ok (.iconst 4, 1) := by decide +kernel
theorem dX8_init_144 : decode cX8_init 144 = .ok (.iastore, 1) := by decide +kernel
theorem dX8_init_145 : decode cX8_init 145 = .ok (.aload_n 0, 1) := by decide +kernel
theorem dX8_init_146 : decode cX8_init 146 = .ok (.getfield 7, 3) := by decide +kernel
theorem dX8_init_149 : decode cX8_init 149 = .ok (.bipush 6, 2) := by decide +kernel
theorem dX8_init_151 : decode cX8_init 151 = .ok (.iconst 3, 1) := by decide +kernel
theorem dX8_init_152 : decode cX8_init 152 = .ok (.iastore, 1) := by decide +kernel
theorem dX8_init_153 : decode cX8_init 153 = .ok (.aload_n 0, 1) := by decide +kernel
theorem dX8_init_154 : decode cX8_init 154 = .ok (.getfield 7, 3) := by decide +kernel
theorem dX8_init_157 : decode cX8_init 157 = .ok (.bipush 10, 2) := by decide +kernel
theorem dX8_init_159 : decode cX8_init 159 = .ok (.iconst 1, 1) := by decide +kernel
theorem dX8_init_160 : decode cX8_init 160 = .ok (.iastore, 1) := by decide +kernel
theorem dX8_init_161 : decode cX8_init 161 = .ok (.return_, 1) := by decide +kernel
theorem dX8_finds_0 : decode cX8_finds 0 = .ok (.aload_n 0, 1) := by decide +kernel
theorem dX8_finds_1 : decode cX8_finds 1 = .ok (.getfield 19, 3) := by decide +kernel
theorem dX8_finds_4 : decode cX8_finds 4 = .ok (.iload_n 1, 1) := by decide +kernel
theorem dX8_finds_5 : decode cX8_finds 5 = .ok (.dup2, 1) := by decide +kernel
theorem dX8_finds_6 : decode cX8_finds 6 = .ok (.iaload, 1) := by decide +kernel
theorem dX8_finds_7 : decode cX8_finds 7 = .ok (.iconst 1, 1) := by decide +kernel
theorem dX8_finds_8 : decode cX8_finds 8 = .ok (.iadd, 1) := by decide +kernel
theorem dX8_finds_9 : decode cX8_finds 9 = .ok (.iastore, 1) := by decide +kernel
theorem dX8_finds_10 : decode cX8_finds 10 = .ok (.ldc 49, 2) := by decide +kernel
theorem dX8_finds_12 : decode cX8_finds 12 = .ok (.iload_n 1, 1) := by decide +kernel
theorem dX8_finds_13 : decode cX8_finds 13 = .ok (.isub, 1) := by decide +kernel
theorem dX8_finds_14 : decode cX8_finds 14 = .ok (.ireturn, 1) := by decide +kernel
theorem dX8_in_0 : decode cX8_in 0 = .ok (.lload_n 0, 1) := by decide +kernel
theorem dX8_in_1 : decode cX8_in 1 = .ok (.lload_n 2, 1) := by decide +kernel
theorem dX8_in_2 : decode cX8_in 2 = .ok (.lcmp, 1) := by decide +kernel
theorem dX8_in_3 : decode cX8_in 3 = .ok (.ifCond .lt 14, 3) := by decide +kernel
theorem dX8_in_6 : decode cX8_in 6 = .ok (.lload_n 0, 1) := by decide +kernel
theorem dX8_in_7 : decode cX8_in 7 = .ok (.lload 4, 2) := by decide +kernel
theorem dX8_in_9 : decode cX8_in 9 = .ok (.lcmp, 1) := by decide +kernel
theorem dX8_in_10 : decode cX8_in 10 = .ok (.ifCond .gt 7, 3) := by decide +kernel
theorem dX8_in_13 : decode cX8_in 13 = .ok (.iconst 1, 1) := by decide +kernel
theorem dX8_in_14 : decode cX8_in 14 = .ok (.goto 4, 3) := by decide +kernel
theorem dX8_in_17 : decode cX8_in 17 = .ok (.iconst 0, 1) := by decide +kernel
theorem dX8_in_18 : decode cX8_in 18 = .ok (.ireturn, 1) := by decide +kernel
theorem dX8_held_0 : decode cX8_held 0 = .ok (.iload_n 0, 1) := by decide +kernel
theorem dX8_held_1 : decode cX8_held 1 = .ok (.iload_n 1, 1) := by decide +kernel
theorem dX8_held_2 : decode cX8_held 2 = .ok (.if_icmp .ge 7, 3) := by decide +kernel
theorem dX8_held_5 : decode cX8_held 5 = .ok (.iload_n 1, 1) := by decide +kernel
theorem dX8_held_6 : decode cX8_held 6 = .ok (.goto 13, 3) := by decide +kernel
theorem dX8_held_9 : decode cX8_held 9 = .ok (.iload_n 0, 1) := by decide +kernel
theorem dX8_held_10 : decode cX8_held 10 = .ok (.iload_n 2, 1) := by decide +kernel
theorem dX8_held_11 : decode cX8_held 11 = .ok (.if_icmp .le 7, 3) := by decide +kernel
theorem dX8_held_14 : decode cX8_held 14 = .ok (.iload_n 2, 1) := by decide +kernel
theorem dX8_held_15 : decode cX8_held 15 = .ok (.goto 4, 3) := by decide +kernel
theorem dX8_held_18 : decode cX8_held 18 = .ok (.iload_n 0, 1) := by decide +kernel
theorem dX8_held_19 : decode cX8_held 19 = .ok (.ireturn, 1) := by decide +kernel
theorem dX8_lesser_0 : decode cX8_lesser 0 = .ok (.iload_n 0, 1) := by decide +kernel
theorem dX8_lesser_1 : decode cX8_lesser 1 = .ok (.iload_n 1, 1) := by decide +kernel
theorem dX8_lesser_2 : decode cX8_lesser 2 = .ok (.if_icmp .ge 7, 3) := by decide +kernel
theorem dX8_lesser_5 : decode cX8_lesser 5 = .ok (.iload_n 0, 1) := by decide +kernel
theorem dX8_lesser_6 : decode cX8_lesser 6 = .ok (.goto 4, 3) := by decide +kernel
theorem dX8_lesser_9 : decode cX8_lesser 9 = .ok (.iload_n 1, 1) := by decide +kernel
theorem dX8_lesser_10 : decode cX8_lesser 10 = .ok (.ireturn, 1) := by decide +kernel
theorem dX8_copies_0 : decode cX8_copies 0 = .ok (.iconst 0, 1) := by decide +kernel
theorem dX8_copies_1 : decode cX8_copies 1 = .ok (.istore_n 2, 1) := by decide +kernel
theorem dX8_copies_2 : decode cX8_copies 2 = .ok (.iload_n 2, 1) := by decide +kernel
theorem dX8_copies_3 : decode cX8_copies 3 = .ok (.sipush 260, 3) := by decide +kernel
theorem dX8_copies_6 : decode cX8_copies 6 = .ok (.if_icmp .ge 15, 3) := by decide +kernel
theorem dX8_copies_9 : decode cX8_copies 9 = .ok (.aload_n 1, 1) := by decide +kernel
theorem dX8_copies_10 : decode cX8_copies 10 = .ok (.iload_n 2, 1) := by decide +kernel
theorem dX8_copies_11 : decode cX8_copies 11 = .ok (.aload_n 0, 1) := by decide +kernel
theorem dX8_copies_12 : decode cX8_copies 12 = .ok (.iload_n 2, 1) := by decide +kernel
theorem dX8_copies_13 : decode cX8_copies 13 = .ok (.iaload, 1) := by decide +kernel
theorem dX8_copies_14 : decode cX8_copies 14 = .ok (.iastore, 1) := by decide +kernel
theorem dX8_copies_15 : decode cX8_copies 15 = .ok (.iinc 2 1, 3) := by decide +kernel
theorem dX8_copies_18 : decode cX8_copies 18 = .ok (.goto (-16), 3) := by decide +kernel
theorem dX8_copies_21 : decode cX8_copies 21 = .ok (.return_, 1) := by decide +kernel
theorem dX8_isKnife_0 : decode cX8_isKnife 0 = .ok (.iload_n 1, 1) := by decide +kernel
theorem dX8_isKnife_1 : decode cX8_isKnife 1 = .ok (.i2l, 1) := by decide +kernel
theorem dX8_isKnife_2 : decode cX8_isKnife 2 = .ok (.lconst 0, 1) := by decide +kernel
theorem dX8_isKnife_3 : decode cX8_isKnife 3 = .ok (.aload_n 0, 1) := by decide +kernel
theorem dX8_isKnife_4 : decode cX8_isKnife 4 = .ok (.getfield 7, 3) := by decide +kernel
theorem dX8_isKnife_7 : decode cX8_isKnife 7 = .ok (.bipush 9, 2) := by decide +kernel
theorem dX8_isKnife_9 : decode cX8_isKnife 9 = .ok (.iaload, 1) := by decide +kernel
theorem dX8_isKnife_10 : decode cX8_isKnife 10 = .ok (.iconst 1, 1) := by decide +kernel
theorem dX8_isKnife_11 : decode cX8_isKnife 11 = .ok (.isub, 1) := by decide +kernel
theorem dX8_isKnife_12 : decode cX8_isKnife 12 = .ok (.i2l, 1) := by decide +kernel
theorem dX8_isKnife_13 : decode cX8_isKnife 13 = .ok (.invokestatic 50, 3) := by decide +kernel
theorem dX8_isKnife_16 : decode cX8_isKnife 16 = .ok (.ireturn, 1) := by decide +kernel
theorem dX8_of_0 : decode cX8_of 0 = .ok (.aload_n 0, 1) := by decide +kernel
theorem dX8_of_1 : decode cX8_of 1 = .ok (.getfield 7, 3) := by decide +kernel
theorem dX8_of_4 : decode cX8_of 4 = .ok (.bipush 13, 2) := by decide +kernel
theorem dX8_of_6 : decode cX8_of 6 = .ok (.bipush 9, 2) := by decide +kernel
theorem dX8_of_8 : decode cX8_of 8 = .ok (.iload_n 1, 1) := by decide +kernel
theorem dX8_of_9 : decode cX8_of 9 = .ok (.imul, 1) := by decide +kernel
theorem dX8_of_10 : decode cX8_of 10 = .ok (.iadd, 1) := by decide +kernel
theorem dX8_of_11 : decode cX8_of 11 = .ok (.iload_n 2, 1) := by decide +kernel
theorem dX8_of_12 : decode cX8_of 12 = .ok (.iadd, 1) := by decide +kernel
theorem dX8_of_13 : decode cX8_of 13 = .ok (.iaload, 1) := by decide +kernel
theorem dX8_of_14 : decode cX8_of 14 = .ok (.ireturn, 1) := by decide +kernel
theorem dX8_becomes_0 : decode cX8_becomes 0 = .ok (.aload_n 0, 1) := by decide +kernel
theorem dX8_becomes_1 : decode cX8_becomes 1 = .ok (.getfield 7, 3) := by decide +kernel
theorem dX8_becomes_4 : decode cX8_becomes 4 = .ok (.bipush 13, 2) := by decide +kernel
theorem dX8_becomes_6 : decode cX8_becomes 6 = .ok (.bipush 9, 2) := by decide +kernel
theorem dX8_becomes_8 : decode cX8_becomes 8 = .ok (.iload_n 1, 1) := by decide +kernel
theorem dX8_becomes_9 : decode cX8_becomes 9 = .ok (.imul, 1) := by decide +kernel
theorem dX8_becomes_10 : decode cX8_becomes 10 = .ok (.iadd, 1) := by decide +kernel
theorem dX8_becomes_11 : decode cX8_becomes 11 = .ok (.iload_n 2, 1) := by decide +kernel
theorem dX8_becomes_12 : decode cX8_becomes 12 = .ok (.iadd, 1) := by decide +kernel
theorem dX8_becomes_13 : decode cX8_becomes 13 = .ok (.iload_n 3, 1) := by decide +kernel
theorem dX8_becomes_14 : decode cX8_becomes 14 = .ok (.iastore, 1) := by decide +kernel
theorem dX8_becomes_15 : decode cX8_becomes 15 = .ok (.return_, 1) := by decide +kernel
theorem dX8_here_0 : decode cX8_here 0 = .ok (.aload_n 0, 1) := by decide +kernel
theorem dX8_here_1 : decode cX8_here 1 = .ok (.getfield 54, 3) := by decide +kernel
theorem dX8_here_4 : decode cX8_here 4 = .ok (.aload_n 0, 1) := by decide +kernel
theorem dX8_here_5 : decode cX8_here 5 = .ok (.getfield 58, 3) := by decide +kernel
theorem dX8_here_8 : decode cX8_here 8 = .ok (.if_icmp .ge 27, 3) := by decide +kernel
theorem dX8_here_11 : decode cX8_here 11 = .ok (.aload_n 0, 1) := by decide +kernel
theorem dX8_here_12 : decode cX8_here 12 = .ok (.getfield 61, 3) := by decide +kernel
theorem dX8_here_15 : decode cX8_here 15 = .ok (.ifCond .ge 20, 3) := by decide +kernel
theorem dX8_here_18 : decode cX8_here 18 = .ok (.aload_n 0, 1) := by decide +kernel
theorem dX8_here_19 : decode cX8_here 19 = .ok (.getfield 7, 3) := by decide +kernel
theorem dX8_here_22 : decode cX8_here 22 = .ok (.aload_n 0, 1) := by decide +kernel
theorem dX8_here_23 : decode cX8_here 23 = .ok (.getfield 64, 3) := by decide +kernel
theorem dX8_here_26 : decode cX8_here 26 = .ok (.aload_n 0, 1) := by decide +kernel
theorem dX8_here_27 : decode cX8_here 27 = .ok (.getfield 54, 3) := by decide +kernel
theorem dX8_here_30 : decode cX8_here 30 = .ok (.iadd, 1) := by decide +kernel
theorem dX8_here_31 : decode cX8_here 31 = .ok (.iaload, 1) := by decide +kernel
theorem dX8_here_32 : decode cX8_here 32 = .ok (.goto 4, 3) := by decide +kernel
theorem dX8_here_35 : decode cX8_here 35 = .ok (.iconst (-1), 1) := by decide +kernel
theorem dX8_here_36 : decode cX8_here 36 = .ok (.ireturn, 1) := by decide +kernel
theorem dX8_wrong_0 : decode cX8_wrong 0 = .ok (.aload_n 0, 1) := by decide +kernel
theorem dX8_wrong_1 : decode cX8_wrong 1 = .ok (.aload_n 0, 1) := by decide +kernel
theorem dX8_wrong_2 : decode cX8_wrong 2 = .ok (.getfield 61, 3) := by decide +kernel
theorem dX8_wrong_5 : decode cX8_wrong 5 = .ok (.ifCond .ge 10, 3) := by decide +kernel
theorem dX8_wrong_8 : decode cX8_wrong 8 = .ok (.aload_n 0, 1) := by decide +kernel
theorem dX8_wrong_9 : decode cX8_wrong 9 = .ok (.getfield 54, 3) := by decide +kernel
theorem dX8_wrong_12 : decode cX8_wrong 12 = .ok (.goto 7, 3) := by decide +kernel
theorem dX8_wrong_15 : decode cX8_wrong 15 = .ok (.aload_n 0, 1) := by decide +kernel
theorem dX8_wrong_16 : decode cX8_wrong 16 = .ok (.getfield 61, 3) := by decide +kernel
theorem dX8_wrong_19 : decode cX8_wrong 19 = .ok (.putfield 61, 3) := by decide +kernel
theorem dX8_wrong_22 : decode cX8_wrong 22 = .ok (.return_, 1) := by decide +kernel
theorem dX8_takes_0 : decode cX8_takes 0 = .ok (.aload_n 0, 1) := by decide +kernel
theorem dX8_takes_1 : decode cX8_takes 1 = .ok (.invokevirtual 67, 3) := by decide +kernel
theorem dX8_takes_4 : decode cX8_takes 4 = .ok (.iload_n 1, 1) := by decide +kernel
theorem dX8_takes_5 : decode cX8_takes 5 = .ok (.if_icmp .eq 5, 3) := by decide +kernel
theorem dX8_takes_8 : decode cX8_takes 8 = .ok (.iconst 0, 1) := by decide +kernel
theorem dX8_takes_9 : decode cX8_takes 9 = .ok (.ireturn, 1) := by decide +kernel
theorem dX8_takes_10 : decode cX8_takes 10 = .ok (.aload_n 0, 1) := by decide +kernel
theorem dX8_takes_11 : decode cX8_takes 11 = .ok (.dup, 1) := by decide +kernel
theorem dX8_takes_12 : decode cX8_takes 12 = .ok (.getfield 54, 3) := by decide +kernel
theorem dX8_takes_15 : decode cX8_takes 15 = .ok (.iconst 1, 1) := by decide +kernel
theorem dX8_takes_16 : decode cX8_takes 16 = .ok (.iadd, 1) := by decide +kernel
theorem dX8_takes_17 : decode cX8_takes 17 = .ok (.putfield 54, 3) := by decide +kernel
theorem dX8_takes_20 : decode cX8_takes 20 = .ok (.iconst 1, 1) := by decide +kernel
theorem dX8_takes_21 : decode cX8_takes 21 = .ok (.ireturn, 1) := by decide +kernel
theorem dX8_nameOf_0 : decode cX8_nameOf 0 = .ok (.aload_n 0, 1) := by decide +kernel
theorem dX8_nameOf_1 : decode cX8_nameOf 1 = .ok (.getfield 71, 3) := by decide +kernel
theorem dX8_nameOf_4 : decode cX8_nameOf 4 = .ok (.ifCond .eq 45, 3) := by decide +kernel
theorem dX8_nameOf_7 : decode cX8_nameOf 7 = .ok (.iload_n 1, 1) := by decide +kernel
theorem dX8_nameOf_8 : decode cX8_nameOf 8 = .ok (.bipush 98, 2) := by decide +kernel
theorem dX8_nameOf_10 : decode cX8_nameOf 10 = .ok (.if_icmp .ne 7, 3) := by decide +kernel
theorem dX8_nameOf_13 : decode cX8_nameOf 13 = .ok (.iconst 0, 1) := by decide +kernel
theorem dX8_nameOf_14 : decode cX8_nameOf 14 = .ok (.goto 34, 3) := by decide +kernel
theorem dX8_nameOf_17 : decode cX8_nameOf 17 = .ok (.iload_n 1, 1) := by decide +kernel
theorem dX8_nameOf_18 : decode cX8_nameOf 18 = .ok (.bipush 110, 2) := by decide +kernel
theorem dX8_nameOf_20 : decode cX8_nameOf 20 = .ok (.if_icmp .ne 7, 3) := by decide +kernel
theorem dX8_nameOf_23 : decode cX8_nameOf 23 = .ok (.iconst 1, 1) := by decide +kernel
theorem dX8_nameOf_24 : decode cX8_nameOf 24 = .ok (.goto 24, 3) := by decide +kernel
theorem dX8_nameOf_27 : decode cX8_nameOf 27 = .ok (.iload_n 1, 1) := by decide +kernel
theorem dX8_nameOf_28 : decode cX8_nameOf 28 = .ok (.bipush 112, 2) := by decide +kernel
theorem dX8_nameOf_30 : decode cX8_nameOf 30 = .ok (.if_icmp .ne 7, 3) := by decide +kernel
theorem dX8_nameOf_33 : decode cX8_nameOf 33 = .ok (.iconst 2, 1) := by decide +kernel
theorem dX8_nameOf_34 : decode cX8_nameOf 34 = .ok (.goto 14, 3) := by decide +kernel
theorem dX8_nameOf_37 : decode cX8_nameOf 37 = .ok (.iload_n 1, 1) := by decide +kernel
theorem dX8_nameOf_38 : decode cX8_nameOf 38 = .ok (.bipush 104, 2) := by decide +kernel
theorem dX8_nameOf_40 : decode cX8_nameOf 40 = .ok (.if_icmp .ne 7, 3) := by decide +kernel
theorem dX8_nameOf_43 : decode cX8_nameOf 43 = .ok (.iconst 3, 1) := by decide +kernel
theorem dX8_nameOf_44 : decode cX8_nameOf 44 = .ok (.goto 4, 3) := by decide +kernel
theorem dX8_nameOf_47 : decode cX8_nameOf 47 = .ok (.iconst (-1), 1) := by decide +kernel
theorem dX8_nameOf_48 : decode cX8_nameOf 48 = .ok (.ireturn, 1) := by decide +kernel
theorem dX8_nameOf_49 : decode cX8_nameOf 49 = .ok (.iload_n 1, 1) := by decide +kernel
theorem dX8_nameOf_50 : decode cX8_nameOf 50 = .ok (.bipush 117, 2) := by decide +kernel
theorem dX8_nameOf_52 : decode cX8_nameOf 52 = .ok (.if_icmp .ne 7, 3) := by decide +kernel
theorem dX8_nameOf_55 : decode cX8_nameOf 55 = .ok (.iconst 0, 1) := by decide +kernel
theorem dX8_nameOf_56 : decode cX8_nameOf 56 = .ok (.goto 34, 3) := by decide +kernel
theorem dX8_nameOf_59 : decode cX8_nameOf 59 = .ok (.iload_n 1, 1) := by decide +kernel
theorem dX8_nameOf_60 : decode cX8_nameOf 60 = .ok (.bipush 115, 2) := by decide +kernel
theorem dX8_nameOf_62 : decode cX8_nameOf 62 = .ok (.if_icmp .ne 7, 3) := by decide +kernel
theorem dX8_nameOf_65 : decode cX8_nameOf 65 = .ok (.iconst 1, 1) := by decide +kernel
theorem dX8_nameOf_66 : decode cX8_nameOf 66 = .ok (.goto 24, 3) := by decide +kernel
theorem dX8_nameOf_69 : decode cX8_nameOf 69 = .ok (.iload_n 1, 1) := by decide +kernel
theorem dX8_nameOf_70 : decode cX8_nameOf 70 = .ok (.bipush 116, 2) := by decide +kernel
theorem dX8_nameOf_72 : decode cX8_nameOf 72 = .ok (.if_icmp .ne 7, 3) := by decide +kernel
theorem dX8_nameOf_75 : decode cX8_nameOf 75 = .ok (.iconst 2, 1) := by decide +kernel
theorem dX8_nameOf_76 : decode cX8_nameOf 76 = .ok (.goto 14, 3) := by decide +kernel
theorem dX8_nameOf_79 : decode cX8_nameOf 79 = .ok (.iload_n 1, 1) := by decide +kernel
theorem dX8_nameOf_80 : decode cX8_nameOf 80 = .ok (.bipush 109, 2) := by decide +kernel
theorem dX8_nameOf_82 : decode cX8_nameOf 82 = .ok (.if_icmp .ne 7, 3) := by decide +kernel
theorem dX8_nameOf_85 : decode cX8_nameOf 85 = .ok (.iconst 3, 1) := by decide +kernel
theorem dX8_nameOf_86 : decode cX8_nameOf 86 = .ok (.goto 4, 3) := by decide +kernel
theorem dX8_nameOf_89 : decode cX8_nameOf 89 = .ok (.iconst (-1), 1) := by decide +kernel
theorem dX8_nameOf_90 : decode cX8_nameOf 90 = .ok (.ireturn, 1) := by decide +kernel
theorem dX8_lay_0 : decode cX8_lay 0 = .ok (.aload_n 0, 1) := by decide +kernel
theorem dX8_lay_1 : decode cX8_lay 1 = .ok (.getfield 61, 3) := by decide +kernel
theorem dX8_lay_4 : decode cX8_lay 4 = .ok (.ifCond .ge 23, 3) := by decide +kernel
theorem dX8_lay_7 : decode cX8_lay 7 = .ok (.aload_n 0, 1) := by decide +kernel
theorem dX8_lay_8 : decode cX8_lay 8 = .ok (.getfield 25, 3) := by decide +kernel
theorem dX8_lay_11 : decode cX8_lay 11 = .ok (.aload_n 0, 1) := by decide +kernel
theorem dX8_lay_12 : decode cX8_lay 12 = .ok (.getfield 75, 3) := by decide +kernel
theorem dX8_lay_15 : decode cX8_lay 15 = .ok (.iload_n 1, 1) := by decide +kernel
theorem dX8_lay_16 : decode cX8_lay 16 = .ok (.iastore, 1) := by decide +kernel
theorem dX8_lay_17 : decode cX8_lay 17 = .ok (.aload_n 0, 1) := by decide +kernel
theorem dX8_lay_18 : decode cX8_lay 18 = .ok (.dup, 1) := by decide +kernel
theorem dX8_lay_19 : decode cX8_lay 19 = .ok (.getfield 75, 3) := by decide +kernel
theorem dX8_lay_22 : decode cX8_lay 22 = .ok (.iconst 1, 1) := by decide +kernel
theorem dX8_lay_23 : decode cX8_lay 23 = .ok (.iadd, 1) := by decide +kernel
theorem dX8_lay_24 : decode cX8_lay 24 = .ok (.putfield 75, 3) := by decide +kernel
theorem dX8_lay_27 : decode cX8_lay 27 = .ok (.return_, 1) := by decide +kernel
theorem dX8_either_0 : decode cX8_either 0 = .ok (.aload_n 0, 1) := by decide +kernel
theorem dX8_either_1 : decode cX8_either 1 = .ok (.invokevirtual 78, 3) := by decide +kernel
theorem dX8_either_4 : decode cX8_either 4 = .ok (.aload_n 0, 1) := by decide +kernel
theorem dX8_either_5 : decode cX8_either 5 = .ok (.bipush 124, 2) := by decide +kernel
theorem dX8_either_7 : decode cX8_either 7 = .ok (.invokevirtual 81, 3) := by decide +kernel
theorem dX8_either_10 : decode cX8_either 10 = .ok (.ifCond .eq 17, 3) := by decide +kernel
theorem dX8_either_13 : decode cX8_either 13 = .ok (.aload_n 0, 1) := by decide +kernel
theorem dX8_either_14 : decode cX8_either 14 = .ok (.invokevirtual 78, 3) := by decide +kernel
theorem dX8_either_17 : decode cX8_either 17 = .ok (.aload_n 0, 1) := by decide +kernel
theorem dX8_either_18 : decode cX8_either 18 = .ok (.sipush 20124, 3) := by decide +kernel
theorem dX8_either_21 : decode cX8_either 21 = .ok (.invokevirtual 85, 3) := by decide +kernel
theorem dX8_either_24 : decode cX8_either 24 = .ok (.goto (-20), 3) := by decide +kernel
theorem dX8_either_27 : decode cX8_either 27 = .ok (.return_, 1) := by decide +kernel
theorem dX8_both_0 : decode cX8_both 0 = .ok (.aload_n 0, 1) := by decide +kernel
theorem dX8_both_1 : decode cX8_both 1 = .ok (.invokevirtual 89, 3) := by decide +kernel
theorem dX8_both_4 : decode cX8_both 4 = .ok (.aload_n 0, 1) := by decide +kernel
theorem dX8_both_5 : decode cX8_both 5 = .ok (.bipush 38, 2) := by decide +kernel
theorem dX8_both_7 : decode cX8_both 7 = .ok (.invokevirtual 81, 3) := by decide +kernel
theorem dX8_both_10 : decode cX8_both 10 = .ok (.ifCond .eq 17, 3) := by decide +kernel
theorem dX8_both_13 : decode cX8_both 13 = .ok (.aload_n 0, 1) := by decide +kernel
theorem dX8_both_14 : decode cX8_both 14 = .ok (.invokevirtual 89, 3) := by decide +kernel
theorem dX8_both_17 : decode cX8_both 17 = .ok (.aload_n 0, 1) := by decide +kernel
theorem dX8_both_18 : decode cX8_both 18 = .ok (.sipush 20038, 3) := by decide +kernel
theorem dX8_both_21 : decode cX8_both 21 = .ok (.invokevirtual 85, 3) := by decide +kernel
theorem dX8_both_24 : decode cX8_both 24 = .ok (.goto (-20), 3) := by decide +kernel
theorem dX8_both_27 : decode cX8_both 27 = .ok (.return_, 1) := by decide +kernel
theorem dX8_compared_0 : decode cX8_compared 0 = .ok (.aload_n 0, 1) := by decide +kernel
theorem dX8_compared_1 : decode cX8_compared 1 = .ok (.invokevirtual 92, 3) := by decide +kernel
theorem dX8_compared_4 : decode cX8_compared 4 = .ok (.aload_n 0, 1) := by decide +kernel
theorem dX8_compared_5 : decode cX8_compared 5 = .ok (.invokevirtual 67, 3) := by decide +kernel
theorem dX8_compared_8 : decode cX8_compared 8 = .ok (.istore_n 1, 1) := by decide +kernel
theorem dX8_compared_9 : decode cX8_compared 9 = .ok (.iload_n 1, 1) := by decide +kernel
theorem dX8_compared_10 : decode cX8_compared 10 = .ok (.bipush 60, 2) := by decide +kernel
theorem dX8_compared_12 : decode cX8_compared 12 = .ok (.if_icmp .eq 15, 3) := by decide +kernel
theorem dX8_compared_15 : decode cX8_compared 15 = .ok (.iload_n 1, 1) := by decide +kernel
theorem dX8_compared_16 : decode cX8_compared 16 = .ok (.bipush 61, 2) := by decide +kernel
theorem dX8_compared_18 : decode cX8_compared 18 = .ok (.if_icmp .eq 9, 3) := by decide +kernel
theorem dX8_compared_21 : decode cX8_compared 21 = .ok (.iload_n 1, 1) := by decide +kernel
theorem dX8_compared_22 : decode cX8_compared 22 = .ok (.bipush 62, 2) := by decide +kernel
theorem dX8_compared_24 : decode cX8_compared 24 = .ok (.if_icmp .ne 26, 3) := by decide +kernel
theorem dX8_compared_27 : decode cX8_compared 27 = .ok (.aload_n 0, 1) := by decide +kernel
theorem dX8_compared_28 : decode cX8_compared 28 = .ok (.dup, 1) := by decide +kernel
theorem dX8_compared_29 : decode cX8_compared 29 = .ok (.getfield 54, 3) := by decide +kernel
theorem dX8_compared_32 : decode cX8_compared 32 = .ok (.iconst 1, 1) := by decide +kernel
theorem dX8_compared_33 : decode cX8_compared 33 = .ok (.iadd, 1) := by decide +kernel
theorem dX8_compared_34 : decode cX8_compared 34 = .ok (.putfield 54, 3) := by decide +kernel
theorem dX8_compared_37 : decode cX8_compared 37 = .ok (.aload_n 0, 1) := by decide +kernel
theorem dX8_compared_38 : decode cX8_compared 38 = .ok (.invokevirtual 92, 3) := by decide +kernel
theorem dX8_compared_41 : decode cX8_compared 41 = .ok (.aload_n 0, 1) := by decide +kernel
theorem dX8_compared_42 : decode cX8_compared 42 = .ok (.sipush 20000, 3) := by decide +kernel
theorem dX8_compared_45 : decode cX8_compared 45 = .ok (.iload_n 1, 1) := by decide +kernel
theorem dX8_compared_46 : decode cX8_compared 46 = .ok (.iadd, 1) := by decide +kernel
theorem dX8_compared_47 : decode cX8_compared 47 = .ok (.invokevirtual 85, 3) := by decide +kernel
theorem dX8_compared_50 : decode cX8_compared 50 = .ok (.return_, 1) := by decide +kernel
theorem dX8_sum_0 : decode cX8_sum 0 = .ok (.aload_n 0, 1) := by decide +kernel
theorem dX8_sum_1 : decode cX8_sum 1 = .ok (.invokevirtual 95, 3) := by decide +kernel
theorem dX8_sum_4 : decode cX8_sum 4 = .ok (.aload_n 0, 1) := by decide +kernel
theorem dX8_sum_5 : decode cX8_sum 5 = .ok (.invokevirtual 67, 3) := by decide +kernel
theorem dX8_sum_8 : decode cX8_sum 8 = .ok (.bipush 43, 2) := by decide +kernel
theorem dX8_sum_10 : decode cX8_sum 10 = .ok (.if_icmp .eq 12, 3) := by decide +kernel
theorem dX8_sum_13 : decode cX8_sum 13 = .ok (.aload_n 0, 1) := by decide +kernel
theorem dX8_sum_14 : decode cX8_sum 14 = .ok (.invokevirtual 67, 3) := by decide +kernel
theorem dX8_sum_17 : decode cX8_sum 17 = .ok (.bipush 45, 2) := by decide +kernel
theorem dX8_sum_19 : decode cX8_sum 19 = .ok (.if_icmp .ne 34, 3) := by decide +kernel
theorem dX8_sum_22 : decode cX8_sum 22 = .ok (.aload_n 0, 1) := by decide +kernel
theorem dX8_sum_23 : decode cX8_sum 23 = .ok (.invokevirtual 67, 3) := by decide +kernel
theorem dX8_sum_26 : decode cX8_sum 26 = .ok (.istore_n 1, 1) := by decide +kernel
theorem dX8_sum_27 : decode cX8_sum 27 = .ok (.aload_n 0, 1) := by decide +kernel
theorem dX8_sum_28 : decode cX8_sum 28 = .ok (.dup, 1) := by decide +kernel
theorem dX8_sum_29 : decode cX8_sum 29 = .ok (.getfield 54, 3) := by decide +kernel
theorem dX8_sum_32 : decode cX8_sum 32 = .ok (.iconst 1, 1) := by decide +kernel
theorem dX8_sum_33 : decode cX8_sum 33 = .ok (.iadd, 1) := by decide +kernel
theorem dX8_sum_34 : decode cX8_sum 34 = .ok (.putfield 54, 3) := by decide +kernel
theorem dX8_sum_37 : decode cX8_sum 37 = .ok (.aload_n 0, 1) := by decide +kernel
theorem dX8_sum_38 : decode cX8_sum 38 = .ok (.invokevirtual 95, 3) := by decide +kernel
theorem dX8_sum_41 : decode cX8_sum 41 = .ok (.aload_n 0, 1) := by decide +kernel
theorem dX8_sum_42 : decode cX8_sum 42 = .ok (.sipush 20000, 3) := by decide +kernel
theorem dX8_sum_45 : decode cX8_sum 45 = .ok (.iload_n 1, 1) := by decide +kernel
theorem dX8_sum_46 : decode cX8_sum 46 = .ok (.iadd, 1) := by decide +kernel
theorem dX8_sum_47 : decode cX8_sum 47 = .ok (.invokevirtual 85, 3) := by decide +kernel
theorem dX8_sum_50 : decode cX8_sum 50 = .ok (.goto (-46), 3) := by decide +kernel
theorem dX8_sum_53 : decode cX8_sum 53 = .ok (.return_, 1) := by decide +kernel
theorem dX8_product_0 : decode cX8_product 0 = .ok (.aload_n 0, 1) := by decide +kernel
theorem dX8_product_1 : decode cX8_product 1 = .ok (.invokevirtual 98, 3) := by decide +kernel
theorem dX8_product_4 : decode cX8_product 4 = .ok (.aload_n 0, 1) := by decide +kernel
theorem dX8_product_5 : decode cX8_product 5 = .ok (.invokevirtual 67, 3) := by decide +kernel
theorem dX8_product_8 : decode cX8_product 8 = .ok (.bipush 42, 2) := by decide +kernel
theorem dX8_product_10 : decode cX8_product 10 = .ok (.if_icmp .eq 21, 3) := by decide +kernel
theorem dX8_product_13 : decode cX8_product 13 = .ok (.aload_n 0, 1) := by decide +kernel
theorem dX8_product_14 : decode cX8_product 14 = .ok (.invokevirtual 67, 3) := by decide +kernel
theorem dX8_product_17 : decode cX8_product 17 = .ok (.bipush 47, 2) := by decide +kernel
theorem dX8_product_19 : decode cX8_product 19 = .ok (.if_icmp .eq 12, 3) := by decide +kernel
theorem dX8_product_22 : decode cX8_product 22 = .ok (.aload_n 0, 1) := by decide +kernel
theorem dX8_product_23 : decode cX8_product 23 = .ok (.invokevirtual 67, 3) := by decide +kernel
theorem dX8_product_26 : decode cX8_product 26 = .ok (.bipush 37, 2) := by decide +kernel
theorem dX8_product_28 : decode cX8_product 28 = .ok (.if_icmp .ne 34, 3) := by decide +kernel
theorem dX8_product_31 : decode cX8_product 31 = .ok (.aload_n 0, 1) := by decide +kernel
theorem dX8_product_32 : decode cX8_product 32 = .ok (.invokevirtual 67, 3) := by decide +kernel
theorem dX8_product_35 : decode cX8_product 35 = .ok (.istore_n 1, 1) := by decide +kernel
theorem dX8_product_36 : decode cX8_product 36 = .ok (.aload_n 0, 1) := by decide +kernel
theorem dX8_product_37 : decode cX8_product 37 = .ok (.dup, 1) := by decide +kernel
theorem dX8_product_38 : decode cX8_product 38 = .ok (.getfield 54, 3) := by decide +kernel
theorem dX8_product_41 : decode cX8_product 41 = .ok (.iconst 1, 1) := by decide +kernel
theorem dX8_product_42 : decode cX8_product 42 = .ok (.iadd, 1) := by decide +kernel
theorem dX8_product_43 : decode cX8_product 43 = .ok (.putfield 54, 3) := by decide +kernel
theorem dX8_product_46 : decode cX8_product 46 = .ok (.aload_n 0, 1) := by decide +kernel
theorem dX8_product_47 : decode cX8_product 47 = .ok (.invokevirtual 98, 3) := by decide +kernel
theorem dX8_product_50 : decode cX8_product 50 = .ok (.aload_n 0, 1) := by decide +kernel
theorem dX8_product_51 : decode cX8_product 51 = .ok (.sipush 20000, 3) := by decide +kernel
theorem dX8_product_54 : decode cX8_product 54 = .ok (.iload_n 1, 1) := by decide +kernel
theorem dX8_product_55 : decode cX8_product 55 = .ok (.iadd, 1) := by decide +kernel
theorem dX8_product_56 : decode cX8_product 56 = .ok (.invokevirtual 85, 3) := by decide +kernel
theorem dX8_product_59 : decode cX8_product 59 = .ok (.goto (-55), 3) := by decide +kernel
theorem dX8_product_62 : decode cX8_product 62 = .ok (.return_, 1) := by decide +kernel
theorem dX8_opens_0 : decode cX8_opens 0 = .ok (.aload_n 0, 1) := by decide +kernel
theorem dX8_opens_1 : decode cX8_opens 1 = .ok (.getfield 101, 3) := by decide +kernel
theorem dX8_opens_4 : decode cX8_opens 4 = .ok (.iconst 5, 1) := by decide +kernel
theorem dX8_opens_5 : decode cX8_opens 5 = .ok (.if_icmp .ne 8, 3) := by decide +kernel
theorem dX8_opens_8 : decode cX8_opens 8 = .ok (.aload_n 0, 1) := by decide +kernel
theorem dX8_opens_9 : decode cX8_opens 9 = .ok (.invokevirtual 104, 3) := by decide +kernel
theorem dX8_opens_12 : decode cX8_opens 12 = .ok (.return_, 1) := by decide +kernel
theorem dX8_opens_13 : decode cX8_opens 13 = .ok (.aload_n 0, 1) := by decide +kernel
theorem dX8_opens_14 : decode cX8_opens 14 = .ok (.dup, 1) := by decide +kernel
theorem dX8_opens_15 : decode cX8_opens 15 = .ok (.getfield 101, 3) := by decide +kernel
theorem dX8_opens_18 : decode cX8_opens 18 = .ok (.iconst 1, 1) := by decide +kernel
theorem dX8_opens_19 : decode cX8_opens 19 = .ok (.iadd, 1) := by decide +kernel
theorem dX8_opens_20 : decode cX8_opens 20 = .ok (.putfield 101, 3) := by decide +kernel
theorem dX8_opens_23 : decode cX8_opens 23 = .ok (.aload_n 0, 1) := by decide +kernel
theorem dX8_opens_24 : decode cX8_opens 24 = .ok (.dup, 1) := by decide +kernel
theorem dX8_opens_25 : decode cX8_opens 25 = .ok (.getfield 54, 3) := by decide +kernel
theorem dX8_opens_28 : decode cX8_opens 28 = .ok (.iconst 1, 1) := by decide +kernel
theorem dX8_opens_29 : decode cX8_opens 29 = .ok (.iadd, 1) := by decide +kernel
theorem dX8_opens_30 : decode cX8_opens 30 = .ok (.putfield 54, 3) := by decide +kernel
theorem dX8_opens_33 : decode cX8_opens 33 = .ok (.iload_n 1, 1) := by decide +kernel
theorem dX8_opens_34 : decode cX8_opens 34 = .ok (.bipush 33, 2) := by decide +kernel
theorem dX8_opens_36 : decode cX8_opens 36 = .ok (.if_icmp .ne 17, 3) := by decide +kernel
theorem dX8_opens_39 : decode cX8_opens 39 = .ok (.aload_n 0, 1) := by decide +kernel
theorem dX8_opens_40 : decode cX8_opens 40 = .ok (.invokevirtual 98, 3) := by decide +kernel
theorem dX8_opens_43 : decode cX8_opens 43 = .ok (.aload_n 0, 1) := by decide +kernel
theorem dX8_opens_44 : decode cX8_opens 44 = .ok (.sipush 20033, 3) := by decide +kernel
theorem dX8_opens_47 : decode cX8_opens 47 = .ok (.invokevirtual 85, 3) := by decide +kernel
theorem dX8_opens_50 : decode cX8_opens 50 = .ok (.goto 20, 3) := by decide +kernel
theorem dX8_opens_53 : decode cX8_opens 53 = .ok (.aload_n 0, 1) := by decide +kernel
theorem dX8_opens_54 : decode cX8_opens 54 = .ok (.invokevirtual 107, 3) := by decide +kernel
theorem dX8_opens_57 : decode cX8_opens 57 = .ok (.aload_n 0, 1) := by decide +kernel
theorem dX8_opens_58 : decode cX8_opens 58 = .ok (.bipush 41, 2) := by decide +kernel
theorem dX8_opens_60 : decode cX8_opens 60 = .ok (.invokevirtual 81, 3) := by decide +kernel
theorem dX8_opens_63 : decode cX8_opens 63 = .ok (.ifCond .ne 7, 3) := by decide +kernel
theorem dX8_opens_66 : decode cX8_opens 66 = .ok (.aload_n 0, 1) := by decide +kernel
theorem dX8_opens_67 : decode cX8_opens 67 = .ok (.invokevirtual 104, 3) := by decide +kernel
theorem dX8_opens_70 : decode cX8_opens 70 = .ok (.aload_n 0, 1) := by decide +kernel
theorem dX8_opens_71 : decode cX8_opens 71 = .ok (.dup, 1) := by decide +kernel
theorem dX8_opens_72 : decode cX8_opens 72 = .ok (.getfield 101, 3) := by decide +kernel
theorem dX8_opens_75 : decode cX8_opens 75 = .ok (.iconst 1, 1) := by decide +kernel
theorem dX8_opens_76 : decode cX8_opens 76 = .ok (.isub, 1) := by decide +kernel
theorem dX8_opens_77 : decode cX8_opens 77 = .ok (.putfield 101, 3) := by decide +kernel
theorem dX8_opens_80 : decode cX8_opens 80 = .ok (.return_, 1) := by decide +kernel
theorem dX8_unit_0 : decode cX8_unit 0 = .ok (.aload_n 0, 1) := by decide +kernel
theorem dX8_unit_1 : decode cX8_unit 1 = .ok (.invokevirtual 67, 3) := by decide +kernel
theorem dX8_unit_4 : decode cX8_unit 4 = .ok (.istore_n 1, 1) := by decide +kernel
theorem dX8_unit_5 : decode cX8_unit 5 = .ok (.iload_n 1, 1) := by decide +kernel
theorem dX8_unit_6 : decode cX8_unit 6 = .ok (.bipush 33, 2) := by decide +kernel
theorem dX8_unit_8 : decode cX8_unit 8 = .ok (.if_icmp .eq 9, 3) := by decide +kernel
theorem dX8_unit_11 : decode cX8_unit 11 = .ok (.iload_n 1, 1) := by decide +kernel
theorem dX8_unit_12 : decode cX8_unit 12 = .ok (.bipush 40, 2) := by decide +kernel
theorem dX8_unit_14 : decode cX8_unit 14 = .ok (.if_icmp .ne 9, 3) := by decide +kernel
theorem dX8_unit_17 : decode cX8_unit 17 = .ok (.aload_n 0, 1) := by decide +kernel
theorem dX8_unit_18 : decode cX8_unit 18 = .ok (.iload_n 1, 1) := by decide +kernel
theorem dX8_unit_19 : decode cX8_unit 19 = .ok (.invokevirtual 110, 3) := by decide +kernel
theorem dX8_unit_22 : decode cX8_unit 22 = .ok (.return_, 1) := by decide +kernel
theorem dX8_unit_23 : decode cX8_unit 23 = .ok (.aload_n 0, 1) := by decide +kernel
theorem dX8_unit_24 : decode cX8_unit 24 = .ok (.iload_n 1, 1) := by decide +kernel
theorem dX8_unit_25 : decode cX8_unit 25 = .ok (.invokevirtual 113, 3) := by decide +kernel
theorem dX8_unit_28 : decode cX8_unit 28 = .ok (.istore_n 2, 1) := by decide +kernel
theorem dX8_unit_29 : decode cX8_unit 29 = .ok (.iload_n 2, 1) := by decide +kernel
theorem dX8_unit_30 : decode cX8_unit 30 = .ok (.ifCond .lt 23, 3) := by decide +kernel
theorem dX8_unit_33 : decode cX8_unit 33 = .ok (.aload_n 0, 1) := by decide +kernel
theorem dX8_unit_34 : decode cX8_unit 34 = .ok (.dup, 1) := by decide +kernel
theorem dX8_unit_35 : decode cX8_unit 35 = .ok (.getfield 54, 3) := by decide +kernel
theorem dX8_unit_38 : decode cX8_unit 38 = .ok (.iconst 1, 1) := by decide +kernel
theorem dX8_unit_39 : decode cX8_unit 39 = .ok (.iadd, 1) := by decide +kernel
theorem dX8_unit_40 : decode cX8_unit 40 = .ok (.putfield 54, 3) := by decide +kernel
theorem dX8_unit_43 : decode cX8_unit 43 = .ok (.aload_n 0, 1) := by decide +kernel
theorem dX8_unit_44 : decode cX8_unit 44 = .ok (.sipush 10000, 3) := by decide +kernel
theorem dX8_unit_47 : decode cX8_unit 47 = .ok (.iload_n 2, 1) := by decide +kernel
theorem dX8_unit_48 : decode cX8_unit 48 = .ok (.iadd, 1) := by decide +kernel
theorem dX8_unit_49 : decode cX8_unit 49 = .ok (.invokevirtual 85, 3) := by decide +kernel
theorem dX8_unit_52 : decode cX8_unit 52 = .ok (.return_, 1) := by decide +kernel
theorem dX8_unit_53 : decode cX8_unit 53 = .ok (.iconst 0, 1) := by decide +kernel
theorem dX8_unit_54 : decode cX8_unit 54 = .ok (.istore_n 3, 1) := by decide +kernel
theorem dX8_unit_55 : decode cX8_unit 55 = .ok (.iconst 0, 1) := by decide +kernel
theorem dX8_unit_56 : decode cX8_unit 56 = .ok (.istore 4, 2) := by decide +kernel
theorem dX8_unit_58 : decode cX8_unit 58 = .ok (.iload 4, 2) := by decide +kernel
theorem dX8_unit_60 : decode cX8_unit 60 = .ok (.iconst 4, 1) := by decide +kernel
theorem dX8_unit_61 : decode cX8_unit 61 = .ok (.if_icmp .ge 49, 3) := by decide +kernel
theorem dX8_unit_64 : decode cX8_unit 64 = .ok (.aload_n 0, 1) := by decide +kernel
theorem dX8_unit_65 : decode cX8_unit 65 = .ok (.invokevirtual 67, 3) := by decide +kernel
theorem dX8_unit_68 : decode cX8_unit 68 = .ok (.i2l, 1) := by decide +kernel
theorem dX8_unit_69 : decode cX8_unit 69 = .ok (.ldc2_w 117, 3) := by decide +kernel
theorem dX8_unit_72 : decode cX8_unit 72 = .ok (.ldc2_w 119, 3) := by decide +kernel
theorem dX8_unit_75 : decode cX8_unit 75 = .ok (.invokestatic 50, 3) := by decide +kernel
theorem dX8_unit_78 : decode cX8_unit 78 = .ok (.ifCond .eq 32, 3) := by decide +kernel
theorem dX8_unit_81 : decode cX8_unit 81 = .ok (.bipush 10, 2) := by decide +kernel
theorem dX8_unit_83 : decode cX8_unit 83 = .ok (.iload_n 3, 1) := by decide +kernel
theorem dX8_unit_84 : decode cX8_unit 84 = .ok (.imul, 1) := by decide +kernel
theorem dX8_unit_85 : decode cX8_unit 85 = .ok (.aload_n 0, 1) := by decide +kernel
theorem dX8_unit_86 : decode cX8_unit 86 = .ok (.invokevirtual 67, 3) := by decide +kernel
theorem dX8_unit_89 : decode cX8_unit 89 = .ok (.iadd, 1) := by decide +kernel
theorem dX8_unit_90 : decode cX8_unit 90 = .ok (.bipush 48, 2) := by decide +kernel
theorem dX8_unit_92 : decode cX8_unit 92 = .ok (.isub, 1) := by decide +kernel
theorem dX8_unit_93 : decode cX8_unit 93 = .ok (.istore_n 3, 1) := by decide +kernel
theorem dX8_unit_94 : decode cX8_unit 94 = .ok (.aload_n 0, 1) := by decide +kernel
theorem dX8_unit_95 : decode cX8_unit 95 = .ok (.dup, 1) := by decide +kernel
theorem dX8_unit_96 : decode cX8_unit 96 = .ok (.getfield 54, 3) := by decide +kernel
theorem dX8_unit_99 : decode cX8_unit 99 = .ok (.iconst 1, 1) := by decide +kernel
theorem dX8_unit_100 : decode cX8_unit 100 = .ok (.iadd, 1) := by decide +kernel
theorem dX8_unit_101 : decode cX8_unit 101 = .ok (.putfield 54, 3) := by decide +kernel
theorem dX8_unit_104 : decode cX8_unit 104 = .ok (.iinc 4 1, 3) := by decide +kernel
theorem dX8_unit_107 : decode cX8_unit 107 = .ok (.goto (-49), 3) := by decide +kernel
theorem dX8_unit_110 : decode cX8_unit 110 = .ok (.iload 4, 2) := by decide +kernel
theorem dX8_unit_112 : decode cX8_unit 112 = .ok (.ifCond .ne 7, 3) := by decide +kernel
theorem dX8_unit_115 : decode cX8_unit 115 = .ok (.aload_n 0, 1) := by decide +kernel
theorem dX8_unit_116 : decode cX8_unit 116 = .ok (.invokevirtual 104, 3) := by decide +kernel
theorem dX8_unit_119 : decode cX8_unit 119 = .ok (.aload_n 0, 1) := by decide +kernel
theorem dX8_unit_120 : decode cX8_unit 120 = .ok (.iload_n 3, 1) := by decide +kernel
theorem dX8_unit_121 : decode cX8_unit 121 = .ok (.invokevirtual 85, 3) := by decide +kernel
theorem dX8_unit_124 : decode cX8_unit 124 = .ok (.return_, 1) := by decide +kernel
theorem dX8_reads_0 : decode cX8_reads 0 = .ok (.aload_n 0, 1) := by decide +kernel
theorem dX8_reads_1 : decode cX8_reads 1 = .ok (.iload_n 1, 1) := by decide +kernel
theorem dX8_reads_2 : decode cX8_reads 2 = .ok (.putfield 64, 3) := by decide +kernel
theorem dX8_reads_5 : decode cX8_reads 5 = .ok (.aload_n 0, 1) := by decide +kernel
theorem dX8_reads_6 : decode cX8_reads 6 = .ok (.iconst 0, 1) := by decide +kernel
theorem dX8_reads_7 : decode cX8_reads 7 = .ok (.putfield 54, 3) := by decide +kernel
theorem dX8_reads_10 : decode cX8_reads 10 = .ok (.aload_n 0, 1) := by decide +kernel
theorem dX8_reads_11 : decode cX8_reads 11 = .ok (.iload_n 2, 1) := by decide +kernel
theorem dX8_reads_12 : decode cX8_reads 12 = .ok (.putfield 58, 3) := by decide +kernel
theorem dX8_reads_15 : decode cX8_reads 15 = .ok (.aload_n 0, 1) := by decide +kernel
theorem dX8_reads_16 : decode cX8_reads 16 = .ok (.iconst (-1), 1) := by decide +kernel
theorem dX8_reads_17 : decode cX8_reads 17 = .ok (.putfield 61, 3) := by decide +kernel
theorem dX8_reads_20 : decode cX8_reads 20 = .ok (.aload_n 0, 1) := by decide +kernel
theorem dX8_reads_21 : decode cX8_reads 21 = .ok (.iconst 0, 1) := by decide +kernel
theorem dX8_reads_22 : decode cX8_reads 22 = .ok (.putfield 101, 3) := by decide +kernel
theorem dX8_reads_25 : decode cX8_reads 25 = .ok (.aload_n 0, 1) := by decide +kernel
theorem dX8_reads_26 : decode cX8_reads 26 = .ok (.iconst 0, 1) := by decide +kernel
theorem dX8_reads_27 : decode cX8_reads 27 = .ok (.putfield 75, 3) := by decide +kernel
theorem dX8_reads_30 : decode cX8_reads 30 = .ok (.aload_n 0, 1) := by decide +kernel
theorem dX8_reads_31 : decode cX8_reads 31 = .ok (.iload_n 3, 1) := by decide +kernel
theorem dX8_reads_32 : decode cX8_reads 32 = .ok (.iconst 1, 1) := by decide +kernel
theorem dX8_reads_33 : decode cX8_reads 33 = .ok (.if_icmp .ne 7, 3) := by decide +kernel
theorem dX8_reads_36 : decode cX8_reads 36 = .ok (.iconst 1, 1) := by decide +kernel
theorem dX8_reads_37 : decode cX8_reads 37 = .ok (.goto 4, 3) := by decide +kernel
theorem dX8_reads_40 : decode cX8_reads 40 = .ok (.iconst 0, 1) := by decide +kernel
theorem dX8_reads_41 : decode cX8_reads 41 = .ok (.putfield 71, 3) := by decide +kernel
theorem dX8_reads_44 : decode cX8_reads 44 = .ok (.aload_n 0, 1) := by decide +kernel
theorem dX8_reads_45 : decode cX8_reads 45 = .ok (.invokevirtual 107, 3) := by decide +kernel
theorem dX8_reads_48 : decode cX8_reads 48 = .ok (.aload_n 0, 1) := by decide +kernel
theorem dX8_reads_49 : decode cX8_reads 49 = .ok (.getfield 61, 3) := by decide +kernel
theorem dX8_reads_52 : decode cX8_reads 52 = .ok (.ifCond .ge 18, 3) := by decide +kernel
theorem dX8_reads_55 : decode cX8_reads 55 = .ok (.aload_n 0, 1) := by decide +kernel
theorem dX8_reads_56 : decode cX8_reads 56 = .ok (.getfield 54, 3) := by decide +kernel
theorem dX8_reads_59 : decode cX8_reads 59 = .ok (.aload_n 0, 1) := by decide +kernel
theorem dX8_reads_60 : decode cX8_reads 60 = .ok (.getfield 58, 3) := by decide +kernel
theorem dX8_reads_63 : decode cX8_reads 63 = .ok (.if_icmp .ge 7, 3) := by decide +kernel
theorem dX8_reads_66 : decode cX8_reads 66 = .ok (.aload_n 0, 1) := by decide +kernel
theorem dX8_reads_67 : decode cX8_reads 67 = .ok (.invokevirtual 104, 3) := by decide +kernel
theorem dX8_reads_70 : decode cX8_reads 70 = .ok (.return_, 1) := by decide +kernel
theorem dX8_done_0 : decode cX8_done 0 = .ok (.iload_n 0, 1) := by decide +kernel
theorem dX8_done_1 : decode cX8_done 1 = .ok (.lookupswitch 168 #[(38, 97), (42, 152), (43, 144), (45, 148), (47, 156), (60, 111), (61, 122), (62, 133), (124, 83)], 83) := by decide +kernel
theorem dX8_done_84 : decode cX8_done 84 = .ok (.iload_n 1, 1) := by decide +kernel
theorem dX8_done_85 : decode cX8_done 85 = .ok (.ifCond .ne 7, 3) := by decide +kernel
theorem dX8_done_88 : decode cX8_done 88 = .ok (.iload_n 2, 1) := by decide +kernel
theorem dX8_done_89 : decode cX8_done 89 = .ok (.ifCond .eq 7, 3) := by decide +kernel
theorem dX8_done_92 : decode cX8_done 92 = .ok (.iconst 1, 1) := by decide +kernel
theorem dX8_done_93 : decode cX8_done 93 = .ok (.goto 4, 3) := by decide +kernel
theorem dX8_done_96 : decode cX8_done 96 = .ok (.iconst 0, 1) := by decide +kernel
theorem dX8_done_97 : decode cX8_done 97 = .ok (.ireturn, 1) := by decide +kernel
theorem dX8_done_98 : decode cX8_done 98 = .ok (.iload_n 1, 1) := by decide +kernel
theorem dX8_done_99 : decode cX8_done 99 = .ok (.ifCond .eq 11, 3) := by decide +kernel
theorem dX8_done_102 : decode cX8_done 102 = .ok (.iload_n 2, 1) := by decide +kernel
theorem dX8_done_103 : decode cX8_done 103 = .ok (.ifCond .eq 7, 3) := by decide +kernel
theorem dX8_done_106 : decode cX8_done 106 = .ok (.iconst 1, 1) := by decide +kernel
theorem dX8_done_107 : decode cX8_done 107 = .ok (.goto 4, 3) := by decide +kernel
theorem dX8_done_110 : decode cX8_done 110 = .ok (.iconst 0, 1) := by decide +kernel
theorem dX8_done_111 : decode cX8_done 111 = .ok (.ireturn, 1) := by decide +kernel
theorem dX8_done_112 : decode cX8_done 112 = .ok (.iload_n 1, 1) := by decide +kernel
theorem dX8_done_113 : decode cX8_done 113 = .ok (.iload_n 2, 1) := by decide +kernel
theorem dX8_done_114 : decode cX8_done 114 = .ok (.if_icmp .ge 7, 3) := by decide +kernel
theorem dX8_done_117 : decode cX8_done 117 = .ok (.iconst 1, 1) := by decide +kernel
theorem dX8_done_118 : decode cX8_done 118 = .ok (.goto 4, 3) := by decide +kernel
theorem dX8_done_121 : decode cX8_done 121 = .ok (.iconst 0, 1) := by decide +kernel
theorem dX8_done_122 : decode cX8_done 122 = .ok (.ireturn, 1) := by decide +kernel
theorem dX8_done_123 : decode cX8_done 123 = .ok (.iload_n 1, 1) := by decide +kernel
theorem dX8_done_124 : decode cX8_done 124 = .ok (.iload_n 2, 1) := by decide +kernel
theorem dX8_done_125 : decode cX8_done 125 = .ok (.if_icmp .ne 7, 3) := by decide +kernel
theorem dX8_done_128 : decode cX8_done 128 = .ok (.iconst 1, 1) := by decide +kernel
theorem dX8_done_129 : decode cX8_done 129 = .ok (.goto 4, 3) := by decide +kernel
theorem dX8_done_132 : decode cX8_done 132 = .ok (.iconst 0, 1) := by decide +kernel
theorem dX8_done_133 : decode cX8_done 133 = .ok (.ireturn, 1) := by decide +kernel
theorem dX8_done_134 : decode cX8_done 134 = .ok (.iload_n 1, 1) := by decide +kernel
theorem dX8_done_135 : decode cX8_done 135 = .ok (.iload_n 2, 1) := by decide +kernel
theorem dX8_done_136 : decode cX8_done 136 = .ok (.if_icmp .le 7, 3) := by decide +kernel
theorem dX8_done_139 : decode cX8_done 139 = .ok (.iconst 1, 1) := by decide +kernel
theorem dX8_done_140 : decode cX8_done 140 = .ok (.goto 4, 3) := by decide +kernel
theorem dX8_done_143 : decode cX8_done 143 = .ok (.iconst 0, 1) := by decide +kernel
theorem dX8_done_144 : decode cX8_done 144 = .ok (.ireturn, 1) := by decide +kernel
theorem dX8_done_145 : decode cX8_done 145 = .ok (.iload_n 1, 1) := by decide +kernel
theorem dX8_done_146 : decode cX8_done 146 = .ok (.iload_n 2, 1) := by decide +kernel
theorem dX8_done_147 : decode cX8_done 147 = .ok (.iadd, 1) := by decide +kernel
theorem dX8_done_148 : decode cX8_done 148 = .ok (.ireturn, 1) := by decide +kernel
theorem dX8_done_149 : decode cX8_done 149 = .ok (.iload_n 1, 1) := by decide +kernel
theorem dX8_done_150 : decode cX8_done 150 = .ok (.iload_n 2, 1) := by decide +kernel
theorem dX8_done_151 : decode cX8_done 151 = .ok (.isub, 1) := by decide +kernel
theorem dX8_done_152 : decode cX8_done 152 = .ok (.ireturn, 1) := by decide +kernel
theorem dX8_done_153 : decode cX8_done 153 = .ok (.iload_n 1, 1) := by decide +kernel
theorem dX8_done_154 : decode cX8_done 154 = .ok (.iload_n 2, 1) := by decide +kernel
theorem dX8_done_155 : decode cX8_done 155 = .ok (.imul, 1) := by decide +kernel
theorem dX8_done_156 : decode cX8_done 156 = .ok (.ireturn, 1) := by decide +kernel
theorem dX8_done_157 : decode cX8_done 157 = .ok (.iload_n 2, 1) := by decide +kernel
theorem dX8_done_158 : decode cX8_done 158 = .ok (.ifCond .ne 7, 3) := by decide +kernel
theorem dX8_done_161 : decode cX8_done 161 = .ok (.iconst 0, 1) := by decide +kernel
theorem dX8_done_162 : decode cX8_done 162 = .ok (.goto 6, 3) := by decide +kernel
theorem dX8_done_165 : decode cX8_done 165 = .ok (.iload_n 1, 1) := by decide +kernel
theorem dX8_done_166 : decode cX8_done 166 = .ok (.iload_n 2, 1) := by decide +kernel
theorem dX8_done_167 : decode cX8_done 167 = .ok (.idiv, 1) := by decide +kernel
theorem dX8_done_168 : decode cX8_done 168 = .ok (.ireturn, 1) := by decide +kernel
theorem dX8_done_169 : decode cX8_done 169 = .ok (.iload_n 2, 1) := by decide +kernel
theorem dX8_done_170 : decode cX8_done 170 = .ok (.ifCond .ne 7, 3) := by decide +kernel
theorem dX8_done_173 : decode cX8_done 173 = .ok (.iconst 0, 1) := by decide +kernel
theorem dX8_done_174 : decode cX8_done 174 = .ok (.goto 6, 3) := by decide +kernel
theorem dX8_done_177 : decode cX8_done 177 = .ok (.iload_n 1, 1) := by decide +kernel
theorem dX8_done_178 : decode cX8_done 178 = .ok (.iload_n 2, 1) := by decide +kernel
theorem dX8_done_179 : decode cX8_done 179 = .ok (.irem, 1) := by decide +kernel
theorem dX8_done_180 : decode cX8_done 180 = .ok (.ireturn, 1) := by decide +kernel
theorem dX8_worked_0 : decode cX8_worked 0 = .ok (.iconst 0, 1) := by decide +kernel
theorem dX8_worked_1 : decode cX8_worked 1 = .ok (.istore_n 3, 1) := by decide +kernel
theorem dX8_worked_2 : decode cX8_worked 2 = .ok (.iload_n 1, 1) := by decide +kernel
theorem dX8_worked_3 : decode cX8_worked 3 = .ok (.istore 4, 2) := by decide +kernel
theorem dX8_worked_5 : decode cX8_worked 5 = .ok (.iload 4, 2) := by decide +kernel
theorem dX8_worked_7 : decode cX8_worked 7 = .ok (.iload_n 1, 1) := by decide +kernel
theorem dX8_worked_8 : decode cX8_worked 8 = .ok (.iload_n 2, 1) := by decide +kernel
theorem dX8_worked_9 : decode cX8_worked 9 = .ok (.iadd, 1) := by decide +kernel
theorem dX8_worked_10 : decode cX8_worked 10 = .ok (.if_icmp .ge 131, 3) := by decide +kernel
theorem dX8_worked_13 : decode cX8_worked 13 = .ok (.aload_n 0, 1) := by decide +kernel
theorem dX8_worked_14 : decode cX8_worked 14 = .ok (.getfield 7, 3) := by decide +kernel
theorem dX8_worked_17 : decode cX8_worked 17 = .ok (.iload 4, 2) := by decide +kernel
theorem dX8_worked_19 : decode cX8_worked 19 = .ok (.iaload, 1) := by decide +kernel
theorem dX8_worked_20 : decode cX8_worked 20 = .ok (.istore 5, 2) := by decide +kernel
theorem dX8_worked_22 : decode cX8_worked 22 = .ok (.iload 5, 2) := by decide +kernel
theorem dX8_worked_24 : decode cX8_worked 24 = .ok (.sipush 20000, 3) := by decide +kernel
theorem dX8_worked_27 : decode cX8_worked 27 = .ok (.if_icmp .ge 39, 3) := by decide +kernel
theorem dX8_worked_30 : decode cX8_worked 30 = .ok (.aload_n 0, 1) := by decide +kernel
theorem dX8_worked_31 : decode cX8_worked 31 = .ok (.getfield 28, 3) := by decide +kernel
theorem dX8_worked_34 : decode cX8_worked 34 = .ok (.iload_n 3, 1) := by decide +kernel
theorem dX8_worked_35 : decode cX8_worked 35 = .ok (.iload 5, 2) := by decide +kernel
theorem dX8_worked_37 : decode cX8_worked 37 = .ok (.sipush 10000, 3) := by decide +kernel
theorem dX8_worked_40 : decode cX8_worked 40 = .ok (.if_icmp .ge 8, 3) := by decide +kernel
theorem dX8_worked_43 : decode cX8_worked 43 = .ok (.iload 5, 2) := by decide +kernel
theorem dX8_worked_45 : decode cX8_worked 45 = .ok (.goto 14, 3) := by decide +kernel
theorem dX8_worked_48 : decode cX8_worked 48 = .ok (.aload_n 0, 1) := by decide +kernel
theorem dX8_worked_49 : decode cX8_worked 49 = .ok (.getfield 22, 3) := by decide +kernel
theorem dX8_worked_52 : decode cX8_worked 52 = .ok (.iload 5, 2) := by decide +kernel
theorem dX8_worked_54 : decode cX8_worked 54 = .ok (.sipush 10000, 3) := by decide +kernel
theorem dX8_worked_57 : decode cX8_worked 57 = .ok (.isub, 1) := by decide +kernel
theorem dX8_worked_58 : decode cX8_worked 58 = .ok (.iaload, 1) := by decide +kernel
theorem dX8_worked_59 : decode cX8_worked 59 = .ok (.iastore, 1) := by decide +kernel
theorem dX8_worked_60 : decode cX8_worked 60 = .ok (.iinc 3 1, 3) := by decide +kernel
theorem dX8_worked_63 : decode cX8_worked 63 = .ok (.goto 72, 3) := by decide +kernel
theorem dX8_worked_66 : decode cX8_worked 66 = .ok (.iload 5, 2) := by decide +kernel
theorem dX8_worked_68 : decode cX8_worked 68 = .ok (.sipush 20033, 3) := by decide +kernel
theorem dX8_worked_71 : decode cX8_worked 71 = .ok (.if_icmp .ne 30, 3) := by decide +kernel
theorem dX8_worked_74 : decode cX8_worked 74 = .ok (.aload_n 0, 1) := by decide +kernel
theorem dX8_worked_75 : decode cX8_worked 75 = .ok (.getfield 28, 3) := by decide +kernel
theorem dX8_worked_78 : decode cX8_worked 78 = .ok (.iload_n 3, 1) := by decide +kernel
theorem dX8_worked_79 : decode cX8_worked 79 = .ok (.iconst 1, 1) := by decide +kernel
theorem dX8_worked_80 : decode cX8_worked 80 = .ok (.isub, 1) := by decide +kernel
theorem dX8_worked_81 : decode cX8_worked 81 = .ok (.aload_n 0, 1) := by decide +kernel
theorem dX8_worked_82 : decode cX8_worked 82 = .ok (.getfield 28, 3) := by decide +kernel
theorem dX8_worked_85 : decode cX8_worked 85 = .ok (.iload_n 3, 1) := by decide +kernel
theorem dX8_worked_86 : decode cX8_worked 86 = .ok (.iconst 1, 1) := by decide +kernel
theorem dX8_worked_87 : decode cX8_worked 87 = .ok (.isub, 1) := by decide +kernel
theorem dX8_worked_88 : decode cX8_worked 88 = .ok (.iaload, 1) := by decide +kernel
theorem dX8_worked_89 : decode cX8_worked 89 = .ok (.ifCond .ne 7, 3) := by decide +kernel
theorem dX8_worked_92 : decode cX8_worked 92 = .ok (.iconst 1, 1) := by decide +kernel
theorem dX8_worked_93 : decode cX8_worked 93 = .ok (.goto 4, 3) := by decide +kernel
theorem dX8_worked_96 : decode cX8_worked 96 = .ok (.iconst 0, 1) := by decide +kernel
theorem dX8_worked_97 : decode cX8_worked 97 = .ok (.iastore, 1) := by decide +kernel
theorem dX8_worked_98 : decode cX8_worked 98 = .ok (.goto 37, 3) := by decide +kernel
theorem dX8_worked_101 : decode cX8_worked 101 = .ok (.iinc 3 (-1), 3) := by decide +kernel
theorem dX8_worked_104 : decode cX8_worked 104 = .ok (.aload_n 0, 1) := by decide +kernel
theorem dX8_worked_105 : decode cX8_worked 105 = .ok (.getfield 28, 3) := by decide +kernel
theorem dX8_worked_108 : decode cX8_worked 108 = .ok (.iload_n 3, 1) := by decide +kernel
theorem dX8_worked_109 : decode cX8_worked 109 = .ok (.iconst 1, 1) := by decide +kernel
theorem dX8_worked_110 : decode cX8_worked 110 = .ok (.isub, 1) := by decide +kernel
theorem dX8_worked_111 : decode cX8_worked 111 = .ok (.iload 5, 2) := by decide +kernel
theorem dX8_worked_113 : decode cX8_worked 113 = .ok (.sipush 20000, 3) := by decide +kernel
theorem dX8_worked_116 : decode cX8_worked 116 = .ok (.isub, 1) := by decide +kernel
theorem dX8_worked_117 : decode cX8_worked 117 = .ok (.aload_n 0, 1) := by decide +kernel
theorem dX8_worked_118 : decode cX8_worked 118 = .ok (.getfield 28, 3) := by decide +kernel
theorem dX8_worked_121 : decode cX8_worked 121 = .ok (.iload_n 3, 1) := by decide +kernel
theorem dX8_worked_122 : decode cX8_worked 122 = .ok (.iconst 1, 1) := by decide +kernel
theorem dX8_worked_123 : decode cX8_worked 123 = .ok (.isub, 1) := by decide +kernel
theorem dX8_worked_124 : decode cX8_worked 124 = .ok (.iaload, 1) := by decide +kernel
theorem dX8_worked_125 : decode cX8_worked 125 = .ok (.aload_n 0, 1) := by decide +kernel
theorem dX8_worked_126 : decode cX8_worked 126 = .ok (.getfield 28, 3) := by decide +kernel
theorem dX8_worked_129 : decode cX8_worked 129 = .ok (.iload_n 3, 1) := by decide +kernel
theorem dX8_worked_130 : decode cX8_worked 130 = .ok (.iaload, 1) := by decide +kernel
theorem dX8_worked_131 : decode cX8_worked 131 = .ok (.invokestatic 121, 3) := by decide +kernel
theorem dX8_worked_134 : decode cX8_worked 134 = .ok (.iastore, 1) := by decide +kernel
theorem dX8_worked_135 : decode cX8_worked 135 = .ok (.iinc 4 1, 3) := by decide +kernel
theorem dX8_worked_138 : decode cX8_worked 138 = .ok (.goto (-133), 3) := by decide +kernel
theorem dX8_worked_141 : decode cX8_worked 141 = .ok (.aload_n 0, 1) := by decide +kernel
theorem dX8_worked_142 : decode cX8_worked 142 = .ok (.getfield 28, 3) := by decide +kernel
theorem dX8_worked_145 : decode cX8_worked 145 = .ok (.iconst 0, 1) := by decide +kernel
theorem dX8_worked_146 : decode cX8_worked 146 = .ok (.iaload, 1) := by decide +kernel
theorem dX8_worked_147 : decode cX8_worked 147 = .ok (.ireturn, 1) := by decide +kernel
theorem dX8_feed_0 : decode cX8_feed 0 = .ok (.iload_n 3, 1) := by decide +kernel
theorem dX8_feed_1 : decode cX8_feed 1 = .ok (.i2l, 1) := by decide +kernel
theorem dX8_feed_2 : decode cX8_feed 2 = .ok (.lconst 1, 1) := by decide +kernel
theorem dX8_feed_3 : decode cX8_feed 3 = .ok (.ldc2_w 125, 3) := by decide +kernel
theorem dX8_feed_6 : decode cX8_feed 6 = .ok (.invokestatic 50, 3) := by decide +kernel
theorem dX8_feed_9 : decode cX8_feed 9 = .ok (.ifCond .ne 9, 3) := by decide +kernel
theorem dX8_feed_12 : decode cX8_feed 12 = .ok (.aload_n 0, 1) := by decide +kernel
theorem dX8_feed_13 : decode cX8_feed 13 = .ok (.iconst 1, 1) := by decide +kernel
theorem dX8_feed_14 : decode cX8_feed 14 = .ok (.invokevirtual 127, 3) := by decide +kernel
theorem dX8_feed_17 : decode cX8_feed 17 = .ok (.ireturn, 1) := by decide +kernel
theorem dX8_feed_18 : decode cX8_feed 18 = .ok (.aload_n 0, 1) := by decide +kernel
theorem dX8_feed_19 : decode cX8_feed 19 = .ok (.getfield 7, 3) := by decide +kernel
theorem dX8_feed_22 : decode cX8_feed 22 = .ok (.bipush 11, 2) := by decide +kernel
theorem dX8_feed_24 : decode cX8_feed 24 = .ok (.iaload, 1) := by decide +kernel
theorem dX8_feed_25 : decode cX8_feed 25 = .ok (.iload_n 3, 1) := by decide +kernel
theorem dX8_feed_26 : decode cX8_feed 26 = .ok (.iadd, 1) := by decide +kernel
theorem dX8_feed_27 : decode cX8_feed 27 = .ok (.bipush 50, 2) := by decide +kernel
theorem dX8_feed_29 : decode cX8_feed 29 = .ok (.if_icmp .le 9, 3) := by decide +kernel
theorem dX8_feed_32 : decode cX8_feed 32 = .ok (.aload_n 0, 1) := by decide +kernel
theorem dX8_feed_33 : decode cX8_feed 33 = .ok (.iconst 4, 1) := by decide +kernel
theorem dX8_feed_34 : decode cX8_feed 34 = .ok (.invokevirtual 127, 3) := by decide +kernel
theorem dX8_feed_37 : decode cX8_feed 37 = .ok (.ireturn, 1) := by decide +kernel
theorem dX8_feed_38 : decode cX8_feed 38 = .ok (.iconst 0, 1) := by decide +kernel
theorem dX8_feed_39 : decode cX8_feed 39 = .ok (.istore 4, 2) := by decide +kernel
theorem dX8_feed_41 : decode cX8_feed 41 = .ok (.iload 4, 2) := by decide +kernel
theorem dX8_feed_43 : decode cX8_feed 43 = .ok (.iload_n 3, 1) := by decide +kernel
theorem dX8_feed_44 : decode cX8_feed 44 = .ok (.if_icmp .ge 48, 3) := by decide +kernel
theorem dX8_feed_47 : decode cX8_feed 47 = .ok (.aload_n 0, 1) := by decide +kernel
theorem dX8_feed_48 : decode cX8_feed 48 = .ok (.getfield 7, 3) := by decide +kernel
theorem dX8_feed_51 : decode cX8_feed 51 = .ok (.sipush 207, 3) := by decide +kernel
theorem dX8_feed_54 : decode cX8_feed 54 = .ok (.aload_n 0, 1) := by decide +kernel
theorem dX8_feed_55 : decode cX8_feed 55 = .ok (.getfield 7, 3) := by decide +kernel
theorem dX8_feed_58 : decode cX8_feed 58 = .ok (.bipush 11, 2) := by decide +kernel
theorem dX8_feed_60 : decode cX8_feed 60 = .ok (.iaload, 1) := by decide +kernel
theorem dX8_feed_61 : decode cX8_feed 61 = .ok (.iadd, 1) := by decide +kernel
theorem dX8_feed_62 : decode cX8_feed 62 = .ok (.lload_n 1, 1) := by decide +kernel
theorem dX8_feed_63 : decode cX8_feed 63 = .ok (.bipush 8, 2) := by decide +kernel
theorem dX8_feed_65 : decode cX8_feed 65 = .ok (.iload 4, 2) := by decide +kernel
theorem dX8_feed_67 : decode cX8_feed 67 = .ok (.imul, 1) := by decide +kernel
theorem dX8_feed_68 : decode cX8_feed 68 = .ok (.lshr, 1) := by decide +kernel
theorem dX8_feed_69 : decode cX8_feed 69 = .ok (.ldc2_w 130, 3) := by decide +kernel
theorem dX8_feed_72 : decode cX8_feed 72 = .ok (.land, 1) := by decide +kernel
theorem dX8_feed_73 : decode cX8_feed 73 = .ok (.l2i, 1) := by decide +kernel
theorem dX8_feed_74 : decode cX8_feed 74 = .ok (.iastore, 1) := by decide +kernel
theorem dX8_feed_75 : decode cX8_feed 75 = .ok (.aload_n 0, 1) := by decide +kernel
theorem dX8_feed_76 : decode cX8_feed 76 = .ok (.getfield 7, 3) := by decide +kernel
theorem dX8_feed_79 : decode cX8_feed 79 = .ok (.bipush 11, 2) := by decide +kernel
theorem dX8_feed_81 : decode cX8_feed 81 = .ok (.dup2, 1) := by decide +kernel
theorem dX8_feed_82 : decode cX8_feed 82 = .ok (.iaload, 1) := by decide +kernel
theorem dX8_feed_83 : decode cX8_feed 83 = .ok (.iconst 1, 1) := by decide +kernel
theorem dX8_feed_84 : decode cX8_feed 84 = .ok (.iadd, 1) := by decide +kernel
theorem dX8_feed_85 : decode cX8_feed 85 = .ok (.iastore, 1) := by decide +kernel
theorem dX8_feed_86 : decode cX8_feed 86 = .ok (.iinc 4 1, 3) := by decide +kernel
theorem dX8_feed_89 : decode cX8_feed 89 = .ok (.goto (-48), 3) := by decide +kernel
theorem dX8_feed_92 : decode cX8_feed 92 = .ok (.aload_n 0, 1) := by decide +kernel
theorem dX8_feed_93 : decode cX8_feed 93 = .ok (.getfield 7, 3) := by decide +kernel
theorem dX8_feed_96 : decode cX8_feed 96 = .ok (.bipush 11, 2) := by decide +kernel
theorem dX8_feed_98 : decode cX8_feed 98 = .ok (.iaload, 1) := by decide +kernel
theorem dX8_feed_99 : decode cX8_feed 99 = .ok (.ireturn, 1) := by decide +kernel
theorem dX8_text_0 : decode cX8_text 0 = .ok (.iload_n 1, 1) := by decide +kernel
theorem dX8_text_1 : decode cX8_text 1 = .ok (.i2l, 1) := by decide +kernel
theorem dX8_text_2 : decode cX8_text 2 = .ok (.lconst 0, 1) := by decide +kernel
theorem dX8_text_3 : decode cX8_text 3 = .ok (.lconst 1, 1) := by decide +kernel
theorem dX8_text_4 : decode cX8_text 4 = .ok (.invokestatic 50, 3) := by decide +kernel
theorem dX8_text_7 : decode cX8_text 7 = .ok (.ifCond .ne 9, 3) := by decide +kernel
theorem dX8_text_10 : decode cX8_text 10 = .ok (.aload_n 0, 1) := by decide +kernel
theorem dX8_text_11 : decode cX8_text 11 = .ok (.iconst 1, 1) := by decide +kernel
theorem dX8_text_12 : decode cX8_text 12 = .ok (.invokevirtual 127, 3) := by decide +kernel
theorem dX8_text_15 : decode cX8_text 15 = .ok (.ireturn, 1) := by decide +kernel
theorem dX8_text_16 : decode cX8_text 16 = .ok (.aload_n 0, 1) := by decide +kernel
theorem dX8_text_17 : decode cX8_text 17 = .ok (.getfield 7, 3) := by decide +kernel
theorem dX8_text_20 : decode cX8_text 20 = .ok (.bipush 11, 2) := by decide +kernel
theorem dX8_text_22 : decode cX8_text 22 = .ok (.iaload, 1) := by decide +kernel
theorem dX8_text_23 : decode cX8_text 23 = .ok (.istore_n 2, 1) := by decide +kernel
theorem dX8_text_24 : decode cX8_text 24 = .ok (.aload_n 0, 1) := by decide +kernel
theorem dX8_text_25 : decode cX8_text 25 = .ok (.getfield 7, 3) := by decide +kernel
theorem dX8_text_28 : decode cX8_text 28 = .ok (.bipush 11, 2) := by decide +kernel
theorem dX8_text_30 : decode cX8_text 30 = .ok (.iconst 0, 1) := by decide +kernel
theorem dX8_text_31 : decode cX8_text 31 = .ok (.iastore, 1) := by decide +kernel
theorem dX8_text_32 : decode cX8_text 32 = .ok (.aload_n 0, 1) := by decide +kernel
theorem dX8_text_33 : decode cX8_text 33 = .ok (.sipush 207, 3) := by decide +kernel
theorem dX8_text_36 : decode cX8_text 36 = .ok (.iload_n 2, 1) := by decide +kernel
theorem dX8_text_37 : decode cX8_text 37 = .ok (.iload_n 1, 1) := by decide +kernel
theorem dX8_text_38 : decode cX8_text 38 = .ok (.invokevirtual 132, 3) := by decide +kernel
theorem dX8_text_41 : decode cX8_text 41 = .ok (.aload_n 0, 1) := by decide +kernel
theorem dX8_text_42 : decode cX8_text 42 = .ok (.getfield 61, 3) := by decide +kernel
theorem dX8_text_45 : decode cX8_text 45 = .ok (.ifCond .lt 11, 3) := by decide +kernel
theorem dX8_text_48 : decode cX8_text 48 = .ok (.bipush (-10), 2) := by decide +kernel
theorem dX8_text_50 : decode cX8_text 50 = .ok (.aload_n 0, 1) := by decide +kernel
theorem dX8_text_51 : decode cX8_text 51 = .ok (.getfield 61, 3) := by decide +kernel
theorem dX8_text_54 : decode cX8_text 54 = .ok (.isub, 1) := by decide +kernel
theorem dX8_text_55 : decode cX8_text 55 = .ok (.ireturn, 1) := by decide +kernel
theorem dX8_text_56 : decode cX8_text 56 = .ok (.aload_n 0, 1) := by decide +kernel
theorem dX8_text_57 : decode cX8_text 57 = .ok (.getfield 7, 3) := by decide +kernel
theorem dX8_text_60 : decode cX8_text 60 = .ok (.bipush 85, 2) := by decide +kernel
theorem dX8_text_62 : decode cX8_text 62 = .ok (.iload_n 1, 1) := by decide +kernel
theorem dX8_text_63 : decode cX8_text 63 = .ok (.iadd, 1) := by decide +kernel
theorem dX8_text_64 : decode cX8_text 64 = .ok (.aload_n 0, 1) := by decide +kernel
theorem dX8_text_65 : decode cX8_text 65 = .ok (.getfield 75, 3) := by decide +kernel
theorem dX8_text_68 : decode cX8_text 68 = .ok (.iastore, 1) := by decide +kernel
theorem dX8_text_69 : decode cX8_text 69 = .ok (.iconst 0, 1) := by decide +kernel
theorem dX8_text_70 : decode cX8_text 70 = .ok (.istore_n 3, 1) := by decide +kernel
theorem dX8_text_71 : decode cX8_text 71 = .ok (.iload_n 3, 1) := by decide +kernel
theorem dX8_text_72 : decode cX8_text 72 = .ok (.aload_n 0, 1) := by decide +kernel
theorem dX8_text_73 : decode cX8_text 73 = .ok (.getfield 75, 3) := by decide +kernel
theorem dX8_text_76 : decode cX8_text 76 = .ok (.if_icmp .ge 29, 3) := by decide +kernel
theorem dX8_text_79 : decode cX8_text 79 = .ok (.aload_n 0, 1) := by decide +kernel
theorem dX8_text_80 : decode cX8_text 80 = .ok (.getfield 7, 3) := by decide +kernel
theorem dX8_text_83 : decode cX8_text 83 = .ok (.bipush 107, 2) := by decide +kernel
theorem dX8_text_85 : decode cX8_text 85 = .ok (.bipush 50, 2) := by decide +kernel
theorem dX8_text_87 : decode cX8_text 87 = .ok (.iload_n 1, 1) := by decide +kernel
theorem dX8_text_88 : decode cX8_text 88 = .ok (.imul, 1) := by decide +kernel
theorem dX8_text_89 : decode cX8_text 89 = .ok (.iadd, 1) := by decide +kernel
theorem dX8_text_90 : decode cX8_text 90 = .ok (.iload_n 3, 1) := by decide +kernel
theorem dX8_text_91 : decode cX8_text 91 = .ok (.iadd, 1) := by decide +kernel
theorem dX8_text_92 : decode cX8_text 92 = .ok (.aload_n 0, 1) := by decide +kernel
theorem dX8_text_93 : decode cX8_text 93 = .ok (.getfield 25, 3) := by decide +kernel
theorem dX8_text_96 : decode cX8_text 96 = .ok (.iload_n 3, 1) := by decide +kernel
theorem dX8_text_97 : decode cX8_text 97 = .ok (.iaload, 1) := by decide +kernel
theorem dX8_text_98 : decode cX8_text 98 = .ok (.iastore, 1) := by decide +kernel
theorem dX8_text_99 : decode cX8_text 99 = .ok (.iinc 3 1, 3) := by decide +kernel
theorem dX8_text_102 : decode cX8_text 102 = .ok (.goto (-31), 3) := by decide +kernel
theorem dX8_text_105 : decode cX8_text 105 = .ok (.iconst 1, 1) := by decide +kernel
theorem dX8_text_106 : decode cX8_text 106 = .ok (.ireturn, 1) := by decide +kernel
theorem dX8_gives_0 : decode cX8_gives 0 = .ok (.iload_n 1, 1) := by decide +kernel
theorem dX8_gives_1 : decode cX8_gives 1 = .ok (.ifCond .ne 7, 3) := by decide +kernel
theorem dX8_gives_4 : decode cX8_gives 4 = .ok (.iconst 0, 1) := by decide +kernel
theorem dX8_gives_5 : decode cX8_gives 5 = .ok (.goto 17, 3) := by decide +kernel
theorem dX8_gives_8 : decode cX8_gives 8 = .ok (.iload_n 2, 1) := by decide +kernel
theorem dX8_gives_9 : decode cX8_gives 9 = .ok (.bipush 10, 2) := by decide +kernel
theorem dX8_gives_11 : decode cX8_gives 11 = .ok (.iload_n 3, 1) := by decide +kernel
theorem dX8_gives_12 : decode cX8_gives 12 = .ok (.imul, 1) := by decide +kernel
theorem dX8_gives_13 : decode cX8_gives 13 = .ok (.iadd, 1) := by decide +kernel
theorem dX8_gives_14 : decode cX8_gives 14 = .ok (.iconst 5, 1) := by decide +kernel
theorem dX8_gives_15 : decode cX8_gives 15 = .ok (.iload 4, 2) := by decide +kernel
theorem dX8_gives_17 : decode cX8_gives 17 = .ok (.imul, 1) := by decide +kernel
theorem dX8_gives_18 : decode cX8_gives 18 = .ok (.isub, 1) := by decide +kernel
theorem dX8_gives_19 : decode cX8_gives 19 = .ok (.bipush 30, 2) := by decide +kernel
theorem dX8_gives_21 : decode cX8_gives 21 = .ok (.isub, 1) := by decide +kernel
theorem dX8_gives_22 : decode cX8_gives 22 = .ok (.istore 6, 2) := by decide +kernel
theorem dX8_gives_24 : decode cX8_gives 24 = .ok (.aload_n 0, 1) := by decide +kernel
theorem dX8_gives_25 : decode cX8_gives 25 = .ok (.getfield 7, 3) := by decide +kernel
theorem dX8_gives_28 : decode cX8_gives 28 = .ok (.bipush 85, 2) := by decide +kernel
theorem dX8_gives_30 : decode cX8_gives 30 = .ok (.iload_n 1, 1) := by decide +kernel
theorem dX8_gives_31 : decode cX8_gives 31 = .ok (.iadd, 1) := by decide +kernel
theorem dX8_gives_32 : decode cX8_gives 32 = .ok (.iaload, 1) := by decide +kernel
theorem dX8_gives_33 : decode cX8_gives 33 = .ok (.ifCond .le 55, 3) := by decide +kernel
theorem dX8_gives_36 : decode cX8_gives 36 = .ok (.aload_n 0, 1) := by decide +kernel
theorem dX8_gives_37 : decode cX8_gives 37 = .ok (.getfield 22, 3) := by decide +kernel
theorem dX8_gives_40 : decode cX8_gives 40 = .ok (.iconst 0, 1) := by decide +kernel
theorem dX8_gives_41 : decode cX8_gives 41 = .ok (.iload_n 2, 1) := by decide +kernel
theorem dX8_gives_42 : decode cX8_gives 42 = .ok (.iastore, 1) := by decide +kernel
theorem dX8_gives_43 : decode cX8_gives 43 = .ok (.aload_n 0, 1) := by decide +kernel
theorem dX8_gives_44 : decode cX8_gives 44 = .ok (.getfield 22, 3) := by decide +kernel
theorem dX8_gives_47 : decode cX8_gives 47 = .ok (.iconst 1, 1) := by decide +kernel
theorem dX8_gives_48 : decode cX8_gives 48 = .ok (.iload_n 3, 1) := by decide +kernel
theorem dX8_gives_49 : decode cX8_gives 49 = .ok (.iastore, 1) := by decide +kernel
theorem dX8_gives_50 : decode cX8_gives 50 = .ok (.aload_n 0, 1) := by decide +kernel
theorem dX8_gives_51 : decode cX8_gives 51 = .ok (.getfield 22, 3) := by decide +kernel
theorem dX8_gives_54 : decode cX8_gives 54 = .ok (.iconst 2, 1) := by decide +kernel
theorem dX8_gives_55 : decode cX8_gives 55 = .ok (.iload 4, 2) := by decide +kernel
theorem dX8_gives_57 : decode cX8_gives 57 = .ok (.iastore, 1) := by decide +kernel
theorem dX8_gives_58 : decode cX8_gives 58 = .ok (.aload_n 0, 1) := by decide +kernel
theorem dX8_gives_59 : decode cX8_gives 59 = .ok (.getfield 22, 3) := by decide +kernel
theorem dX8_gives_62 : decode cX8_gives 62 = .ok (.iconst 3, 1) := by decide +kernel
theorem dX8_gives_63 : decode cX8_gives 63 = .ok (.iload 5, 2) := by decide +kernel
theorem dX8_gives_65 : decode cX8_gives 65 = .ok (.iastore, 1) := by decide +kernel
theorem dX8_gives_66 : decode cX8_gives 66 = .ok (.aload_n 0, 1) := by decide +kernel
theorem dX8_gives_67 : decode cX8_gives 67 = .ok (.bipush 107, 2) := by decide +kernel
theorem dX8_gives_69 : decode cX8_gives 69 = .ok (.bipush 50, 2) := by decide +kernel
theorem dX8_gives_71 : decode cX8_gives 71 = .ok (.iload_n 1, 1) := by decide +kernel
theorem dX8_gives_72 : decode cX8_gives 72 = .ok (.imul, 1) := by decide +kernel
theorem dX8_gives_73 : decode cX8_gives 73 = .ok (.iadd, 1) := by decide +kernel
theorem dX8_gives_74 : decode cX8_gives 74 = .ok (.aload_n 0, 1) := by decide +kernel
theorem dX8_gives_75 : decode cX8_gives 75 = .ok (.getfield 7, 3) := by decide +kernel
theorem dX8_gives_78 : decode cX8_gives 78 = .ok (.bipush 85, 2) := by decide +kernel
theorem dX8_gives_80 : decode cX8_gives 80 = .ok (.iload_n 1, 1) := by decide +kernel
theorem dX8_gives_81 : decode cX8_gives 81 = .ok (.iadd, 1) := by decide +kernel
theorem dX8_gives_82 : decode cX8_gives 82 = .ok (.iaload, 1) := by decide +kernel
theorem dX8_gives_83 : decode cX8_gives 83 = .ok (.invokevirtual 136, 3) := by decide +kernel
theorem dX8_gives_86 : decode cX8_gives 86 = .ok (.istore 6, 2) := by decide +kernel
theorem dX8_gives_88 : decode cX8_gives 88 = .ok (.iload_n 1, 1) := by decide +kernel
theorem dX8_gives_89 : decode cX8_gives 89 = .ok (.ifCond .ne 15, 3) := by decide +kernel
theorem dX8_gives_92 : decode cX8_gives 92 = .ok (.iload 6, 2) := by decide +kernel
theorem dX8_gives_94 : decode cX8_gives 94 = .ok (.bipush (-9), 2) := by decide +kernel
theorem dX8_gives_96 : decode cX8_gives 96 = .ok (.bipush 9, 2) := by decide +kernel
theorem dX8_gives_98 : decode cX8_gives 98 = .ok (.invokestatic 140, 3) := by decide +kernel
theorem dX8_gives_101 : decode cX8_gives 101 = .ok (.goto 5, 3) := by decide +kernel
theorem dX8_gives_104 : decode cX8_gives 104 = .ok (.iload 6, 2) := by decide +kernel
theorem dX8_gives_106 : decode cX8_gives 106 = .ok (.ireturn, 1) := by decide +kernel
theorem dX8_law_0 : decode cX8_law 0 = .ok (.iload_n 1, 1) := by decide +kernel
theorem dX8_law_1 : decode cX8_law 1 = .ok (.i2l, 1) := by decide +kernel
theorem dX8_law_2 : decode cX8_law 2 = .ok (.lconst 0, 1) := by decide +kernel
theorem dX8_law_3 : decode cX8_law 3 = .ok (.lconst 1, 1) := by decide +kernel
theorem dX8_law_4 : decode cX8_law 4 = .ok (.invokestatic 50, 3) := by decide +kernel
theorem dX8_law_7 : decode cX8_law 7 = .ok (.ifCond .eq 17, 3) := by decide +kernel
theorem dX8_law_10 : decode cX8_law 10 = .ok (.aload_n 0, 1) := by decide +kernel
theorem dX8_law_11 : decode cX8_law 11 = .ok (.iload_n 1, 1) := by decide +kernel
theorem dX8_law_12 : decode cX8_law 12 = .ok (.iload_n 2, 1) := by decide +kernel
theorem dX8_law_13 : decode cX8_law 13 = .ok (.iload_n 3, 1) := by decide +kernel
theorem dX8_law_14 : decode cX8_law 14 = .ok (.iload 4, 2) := by decide +kernel
theorem dX8_law_16 : decode cX8_law 16 = .ok (.iload 5, 2) := by decide +kernel
theorem dX8_law_18 : decode cX8_law 18 = .ok (.invokevirtual 143, 3) := by decide +kernel
theorem dX8_law_21 : decode cX8_law 21 = .ok (.goto 8, 3) := by decide +kernel
theorem dX8_law_24 : decode cX8_law 24 = .ok (.aload_n 0, 1) := by decide +kernel
theorem dX8_law_25 : decode cX8_law 25 = .ok (.iconst 1, 1) := by decide +kernel
theorem dX8_law_26 : decode cX8_law 26 = .ok (.invokevirtual 127, 3) := by decide +kernel
theorem dX8_law_29 : decode cX8_law 29 = .ok (.ireturn, 1) := by decide +kernel
theorem dX8_isTold_0 : decode cX8_isTold 0 = .ok (.iload_n 0, 1) := by decide +kernel
theorem dX8_isTold_1 : decode cX8_isTold 1 = .ok (.i2l, 1) := by decide +kernel
theorem dX8_isTold_2 : decode cX8_isTold 2 = .ok (.lconst 0, 1) := by decide +kernel
theorem dX8_isTold_3 : decode cX8_isTold 3 = .ok (.ldc2_w 147, 3) := by decide +kernel
theorem dX8_isTold_6 : decode cX8_isTold 6 = .ok (.invokestatic 50, 3) := by decide +kernel
theorem dX8_isTold_9 : decode cX8_isTold 9 = .ok (.ifCond .eq 39, 3) := by decide +kernel
theorem dX8_isTold_12 : decode cX8_isTold 12 = .ok (.iload_n 1, 1) := by decide +kernel
theorem dX8_isTold_13 : decode cX8_isTold 13 = .ok (.i2l, 1) := by decide +kernel
theorem dX8_isTold_14 : decode cX8_isTold 14 = .ok (.lconst 0, 1) := by decide +kernel
theorem dX8_isTold_15 : decode cX8_isTold 15 = .ok (.ldc2_w 149, 3) := by decide +kernel
theorem dX8_isTold_18 : decode cX8_isTold 18 = .ok (.invokestatic 50, 3) := by decide +kernel
theorem dX8_isTold_21 : decode cX8_isTold 21 = .ok (.ifCond .eq 27, 3) := by decide +kernel
theorem dX8_isTold_24 : decode cX8_isTold 24 = .ok (.iload_n 2, 1) := by decide +kernel
theorem dX8_isTold_25 : decode cX8_isTold 25 = .ok (.i2l, 1) := by decide +kernel
theorem dX8_isTold_26 : decode cX8_isTold 26 = .ok (.lconst 0, 1) := by decide +kernel
theorem dX8_isTold_27 : decode cX8_isTold 27 = .ok (.ldc2_w 151, 3) := by decide +kernel
theorem dX8_isTold_30 : decode cX8_isTold 30 = .ok (.invokestatic 50, 3) := by decide +kernel
theorem dX8_isTold_33 : decode cX8_isTold 33 = .ok (.ifCond .eq 15, 3) := by decide +kernel
theorem dX8_isTold_36 : decode cX8_isTold 36 = .ok (.iload_n 2, 1) := by decide +kernel
theorem dX8_isTold_37 : decode cX8_isTold 37 = .ok (.bipush 10, 2) := by decide +kernel
theorem dX8_isTold_39 : decode cX8_isTold 39 = .ok (.irem, 1) := by decide +kernel
theorem dX8_isTold_40 : decode cX8_isTold 40 = .ok (.iconst 4, 1) := by decide +kernel
theorem dX8_isTold_41 : decode cX8_isTold 41 = .ok (.if_icmp .ge 7, 3) := by decide +kernel
theorem dX8_isTold_44 : decode cX8_isTold 44 = .ok (.iconst 1, 1) := by decide +kernel
theorem dX8_isTold_45 : decode cX8_isTold 45 = .ok (.goto 4, 3) := by decide +kernel
theorem dX8_isTold_48 : decode cX8_isTold 48 = .ok (.iconst 0, 1) := by decide +kernel
theorem dX8_isTold_49 : decode cX8_isTold 49 = .ok (.ireturn, 1) := by decide +kernel
theorem dX8_comes_0 : decode cX8_comes 0 = .ok (.aload_n 0, 1) := by decide +kernel
theorem dX8_comes_1 : decode cX8_comes 1 = .ok (.getfield 7, 3) := by decide +kernel
theorem dX8_comes_4 : decode cX8_comes 4 = .ok (.bipush 9, 2) := by decide +kernel
theorem dX8_comes_6 : decode cX8_comes 6 = .ok (.iaload, 1) := by decide +kernel
theorem dX8_comes_7 : decode cX8_comes 7 = .ok (.istore 4, 2) := by decide +kernel
theorem dX8_comes_9 : decode cX8_comes 9 = .ok (.aload_n 0, 1) := by decide +kernel
theorem dX8_comes_10 : decode cX8_comes 10 = .ok (.iload 4, 2) := by decide +kernel
theorem dX8_comes_12 : decode cX8_comes 12 = .ok (.iconst 0, 1) := by decide +kernel
theorem dX8_comes_13 : decode cX8_comes 13 = .ok (.iload_n 1, 1) := by decide +kernel
theorem dX8_comes_14 : decode cX8_comes 14 = .ok (.bipush 10, 2) := by decide +kernel
theorem dX8_comes_16 : decode cX8_comes 16 = .ok (.idiv, 1) := by decide +kernel
theorem dX8_comes_17 : decode cX8_comes 17 = .ok (.invokevirtual 153, 3) := by decide +kernel
theorem dX8_comes_20 : decode cX8_comes 20 = .ok (.aload_n 0, 1) := by decide +kernel
theorem dX8_comes_21 : decode cX8_comes 21 = .ok (.iload 4, 2) := by decide +kernel
theorem dX8_comes_23 : decode cX8_comes 23 = .ok (.iconst 1, 1) := by decide +kernel
theorem dX8_comes_24 : decode cX8_comes 24 = .ok (.iload_n 1, 1) := by decide +kernel
theorem dX8_comes_25 : decode cX8_comes 25 = .ok (.bipush 10, 2) := by decide +kernel
theorem dX8_comes_27 : decode cX8_comes 27 = .ok (.irem, 1) := by decide +kernel
theorem dX8_comes_28 : decode cX8_comes 28 = .ok (.invokevirtual 153, 3) := by decide +kernel
theorem dX8_comes_31 : decode cX8_comes 31 = .ok (.aload_n 0, 1) := by decide +kernel
theorem dX8_comes_32 : decode cX8_comes 32 = .ok (.iload 4, 2) := by decide +kernel
theorem dX8_comes_34 : decode cX8_comes 34 = .ok (.iconst 2, 1) := by decide +kernel
theorem dX8_comes_35 : decode cX8_comes 35 = .ok (.iload_n 2, 1) := by decide +kernel
theorem dX8_comes_36 : decode cX8_comes 36 = .ok (.invokevirtual 153, 3) := by decide +kernel
theorem dX8_comes_39 : decode cX8_comes 39 = .ok (.aload_n 0, 1) := by decide +kernel
theorem dX8_comes_40 : decode cX8_comes 40 = .ok (.iload 4, 2) := by decide +kernel
theorem dX8_comes_42 : decode cX8_comes 42 = .ok (.iconst 3, 1) := by decide +kernel
theorem dX8_comes_43 : decode cX8_comes 43 = .ok (.bipush 60, 2) := by decide +kernel
theorem dX8_comes_45 : decode cX8_comes 45 = .ok (.invokevirtual 153, 3) := by decide +kernel
theorem dX8_comes_48 : decode cX8_comes 48 = .ok (.aload_n 0, 1) := by decide +kernel
theorem dX8_comes_49 : decode cX8_comes 49 = .ok (.iload 4, 2) := by decide +kernel
theorem dX8_comes_51 : decode cX8_comes 51 = .ok (.iconst 4, 1) := by decide +kernel
theorem dX8_comes_52 : decode cX8_comes 52 = .ok (.sipush 200, 3) := by decide +kernel
theorem dX8_comes_55 : decode cX8_comes 55 = .ok (.invokevirtual 153, 3) := by decide +kernel
theorem dX8_comes_58 : decode cX8_comes 58 = .ok (.aload_n 0, 1) := by decide +kernel
theorem dX8_comes_59 : decode cX8_comes 59 = .ok (.iload 4, 2) := by decide +kernel
theorem dX8_comes_61 : decode cX8_comes 61 = .ok (.iconst 5, 1) := by decide +kernel
theorem dX8_comes_62 : decode cX8_comes 62 = .ok (.iconst 0, 1) := by decide +kernel
theorem dX8_comes_63 : decode cX8_comes 63 = .ok (.invokevirtual 153, 3) := by decide +kernel
theorem dX8_comes_66 : decode cX8_comes 66 = .ok (.aload_n 0, 1) := by decide +kernel
theorem dX8_comes_67 : decode cX8_comes 67 = .ok (.iload 4, 2) := by decide +kernel
theorem dX8_comes_69 : decode cX8_comes 69 = .ok (.bipush 6, 2) := by decide +kernel
theorem dX8_comes_71 : decode cX8_comes 71 = .ok (.iload_n 3, 1) := by decide +kernel
theorem dX8_comes_72 : decode cX8_comes 72 = .ok (.bipush 10, 2) := by decide +kernel
theorem dX8_comes_74 : decode cX8_comes 74 = .ok (.idiv, 1) := by decide +kernel
theorem dX8_comes_75 : decode cX8_comes 75 = .ok (.invokevirtual 153, 3) := by decide +kernel
theorem dX8_comes_78 : decode cX8_comes 78 = .ok (.aload_n 0, 1) := by decide +kernel
theorem dX8_comes_79 : decode cX8_comes 79 = .ok (.iload 4, 2) := by decide +kernel
theorem dX8_comes_81 : decode cX8_comes 81 = .ok (.bipush 7, 2) := by decide +kernel
theorem dX8_comes_83 : decode cX8_comes 83 = .ok (.iload_n 3, 1) := by decide +kernel
theorem dX8_comes_84 : decode cX8_comes 84 = .ok (.bipush 10, 2) := by decide +kernel
theorem dX8_comes_86 : decode cX8_comes 86 = .ok (.irem, 1) := by decide +kernel
theorem dX8_comes_87 : decode cX8_comes 87 = .ok (.invokevirtual 153, 3) := by decide +kernel
theorem dX8_comes_90 : decode cX8_comes 90 = .ok (.aload_n 0, 1) := by decide +kernel
theorem dX8_comes_91 : decode cX8_comes 91 = .ok (.iload 4, 2) := by decide +kernel
theorem dX8_comes_93 : decode cX8_comes 93 = .ok (.bipush 8, 2) := by decide +kernel
theorem dX8_comes_95 : decode cX8_comes 95 = .ok (.iconst 0, 1) := by decide +kernel
theorem dX8_comes_96 : decode cX8_comes 96 = .ok (.invokevirtual 153, 3) := by decide +kernel
theorem dX8_comes_99 : decode cX8_comes 99 = .ok (.aload_n 0, 1) := by decide +kernel
theorem dX8_comes_100 : decode cX8_comes 100 = .ok (.getfield 7, 3) := by decide +kernel
theorem dX8_comes_103 : decode cX8_comes 103 = .ok (.bipush 9, 2) := by decide +kernel
theorem dX8_comes_105 : decode cX8_comes 105 = .ok (.dup2, 1) := by decide +kernel
theorem dX8_comes_106 : decode cX8_comes 106 = .ok (.iaload, 1) := by decide +kernel
theorem dX8_comes_107 : decode cX8_comes 107 = .ok (.iconst 1, 1) := by decide +kernel
theorem dX8_comes_108 : decode cX8_comes 108 = .ok (.iadd, 1) := by decide +kernel
theorem dX8_comes_109 : decode cX8_comes 109 = .ok (.iastore, 1) := by decide +kernel
theorem dX8_comes_110 : decode cX8_comes 110 = .ok (.iload 4, 2) := by decide +kernel
theorem dX8_comes_112 : decode cX8_comes 112 = .ok (.ireturn, 1) := by decide +kernel
theorem dX8_knife_0 : decode cX8_knife 0 = .ok (.iload_n 1, 1) := by decide +kernel
theorem dX8_knife_1 : decode cX8_knife 1 = .ok (.iload_n 2, 1) := by decide +kernel
theorem dX8_knife_2 : decode cX8_knife 2 = .ok (.iload_n 3, 1) := by decide +kernel
theorem dX8_knife_3 : decode cX8_knife 3 = .ok (.invokestatic 156, 3) := by decide +kernel
theorem dX8_knife_6 : decode cX8_knife 6 = .ok (.ifCond .ne 9, 3) := by decide +kernel
theorem dX8_knife_9 : decode cX8_knife 9 = .ok (.aload_n 0, 1) := by decide +kernel
theorem dX8_knife_10 : decode cX8_knife 10 = .ok (.iconst 1, 1) := by decide +kernel
theorem dX8_knife_11 : decode cX8_knife 11 = .ok (.invokevirtual 127, 3) := by decide +kernel
theorem dX8_knife_14 : decode cX8_knife 14 = .ok (.ireturn, 1) := by decide +kernel
theorem dX8_knife_15 : decode cX8_knife 15 = .ok (.aload_n 0, 1) := by decide +kernel
theorem dX8_knife_16 : decode cX8_knife 16 = .ok (.getfield 7, 3) := by decide +kernel
theorem dX8_knife_19 : decode cX8_knife 19 = .ok (.bipush 9, 2) := by decide +kernel
theorem dX8_knife_21 : decode cX8_knife 21 = .ok (.iaload, 1) := by decide +kernel
theorem dX8_knife_22 : decode cX8_knife 22 = .ok (.bipush 8, 2) := by decide +kernel
theorem dX8_knife_24 : decode cX8_knife 24 = .ok (.if_icmp .ne 11, 3) := by decide +kernel
theorem dX8_knife_27 : decode cX8_knife 27 = .ok (.aload_n 0, 1) := by decide +kernel
theorem dX8_knife_28 : decode cX8_knife 28 = .ok (.iconst 4, 1) := by decide +kernel
theorem dX8_knife_29 : decode cX8_knife 29 = .ok (.invokevirtual 127, 3) := by decide +kernel
theorem dX8_knife_32 : decode cX8_knife 32 = .ok (.goto 10, 3) := by decide +kernel
theorem dX8_knife_35 : decode cX8_knife 35 = .ok (.aload_n 0, 1) := by decide +kernel
theorem dX8_knife_36 : decode cX8_knife 36 = .ok (.iload_n 1, 1) := by decide +kernel
theorem dX8_knife_37 : decode cX8_knife 37 = .ok (.iload_n 2, 1) := by decide +kernel
theorem dX8_knife_38 : decode cX8_knife 38 = .ok (.iload_n 3, 1) := by decide +kernel
theorem dX8_knife_39 : decode cX8_knife 39 = .ok (.invokevirtual 160, 3) := by decide +kernel
theorem dX8_knife_42 : decode cX8_knife 42 = .ok (.ireturn, 1) := by decide +kernel
theorem dX8_dullsOf_0 : decode cX8_dullsOf 0 = .ok (.aload_n 0, 1) := by decide +kernel
theorem dX8_dullsOf_1 : decode cX8_dullsOf 1 = .ok (.iload_n 1, 1) := by decide +kernel
theorem dX8_dullsOf_2 : decode cX8_dullsOf 2 = .ok (.bipush 7, 2) := by decide +kernel
theorem dX8_dullsOf_4 : decode cX8_dullsOf 4 = .ok (.invokevirtual 163, 3) := by decide +kernel
theorem dX8_dullsOf_7 : decode cX8_dullsOf 7 = .ok (.istore_n 2, 1) := by decide +kernel
theorem dX8_dullsOf_8 : decode cX8_dullsOf 8 = .ok (.aload_n 0, 1) := by decide +kernel
theorem dX8_dullsOf_9 : decode cX8_dullsOf 9 = .ok (.iload_n 1, 1) := by decide +kernel
theorem dX8_dullsOf_10 : decode cX8_dullsOf 10 = .ok (.iconst 1, 1) := by decide +kernel
theorem dX8_dullsOf_11 : decode cX8_dullsOf 11 = .ok (.invokevirtual 163, 3) := by decide +kernel
theorem dX8_dullsOf_14 : decode cX8_dullsOf 14 = .ok (.istore_n 3, 1) := by decide +kernel
theorem dX8_dullsOf_15 : decode cX8_dullsOf 15 = .ok (.aload_n 0, 1) := by decide +kernel
theorem dX8_dullsOf_16 : decode cX8_dullsOf 16 = .ok (.iload_n 1, 1) := by decide +kernel
theorem dX8_dullsOf_17 : decode cX8_dullsOf 17 = .ok (.iconst 3, 1) := by decide +kernel
theorem dX8_dullsOf_18 : decode cX8_dullsOf 18 = .ok (.invokevirtual 163, 3) := by decide +kernel
theorem dX8_dullsOf_21 : decode cX8_dullsOf 21 = .ok (.istore 4, 2) := by decide +kernel
theorem dX8_dullsOf_23 : decode cX8_dullsOf 23 = .ok (.iload 4, 2) := by decide +kernel
theorem dX8_dullsOf_25 : decode cX8_dullsOf 25 = .ok (.bipush 20, 2) := by decide +kernel
theorem dX8_dullsOf_27 : decode cX8_dullsOf 27 = .ok (.if_icmp .lt 7, 3) := by decide +kernel
theorem dX8_dullsOf_30 : decode cX8_dullsOf 30 = .ok (.iconst 1, 1) := by decide +kernel
theorem dX8_dullsOf_31 : decode cX8_dullsOf 31 = .ok (.goto 4, 3) := by decide +kernel
theorem dX8_dullsOf_34 : decode cX8_dullsOf 34 = .ok (.iconst 0, 1) := by decide +kernel
theorem dX8_dullsOf_35 : decode cX8_dullsOf 35 = .ok (.istore 5, 2) := by decide +kernel
theorem dX8_dullsOf_37 : decode cX8_dullsOf 37 = .ok (.iconst 1, 1) := by decide +kernel
theorem dX8_dullsOf_38 : decode cX8_dullsOf 38 = .ok (.iload_n 2, 1) := by decide +kernel
theorem dX8_dullsOf_39 : decode cX8_dullsOf 39 = .ok (.iadd, 1) := by decide +kernel
theorem dX8_dullsOf_40 : decode cX8_dullsOf 40 = .ok (.istore 6, 2) := by decide +kernel
theorem dX8_dullsOf_42 : decode cX8_dullsOf 42 = .ok (.aload_n 0, 1) := by decide +kernel
theorem dX8_dullsOf_43 : decode cX8_dullsOf 43 = .ok (.iload_n 1, 1) := by decide +kernel
theorem dX8_dullsOf_44 : decode cX8_dullsOf 44 = .ok (.iconst 0, 1) := by decide +kernel
theorem dX8_dullsOf_45 : decode cX8_dullsOf 45 = .ok (.invokevirtual 163, 3) := by decide +kernel
theorem dX8_dullsOf_48 : decode cX8_dullsOf 48 = .ok (.tableswitch 94 1 6 #[40, 50, 56, 63, 75, 85], 40) := by decide +kernel
theorem dX8_dullsOf_88 : decode cX8_dullsOf 88 = .ok (.iconst 2, 1) := by decide +kernel
theorem dX8_dullsOf_89 : decode cX8_dullsOf 89 = .ok (.iconst 1, 1) := by decide +kernel
theorem dX8_dullsOf_90 : decode cX8_dullsOf 90 = .ok (.iload_n 2, 1) := by decide +kernel
theorem dX8_dullsOf_91 : decode cX8_dullsOf 91 = .ok (.iadd, 1) := by decide +kernel
theorem dX8_dullsOf_92 : decode cX8_dullsOf 92 = .ok (.imul, 1) := by decide +kernel
theorem dX8_dullsOf_93 : decode cX8_dullsOf 93 = .ok (.istore 6, 2) := by decide +kernel
theorem dX8_dullsOf_95 : decode cX8_dullsOf 95 = .ok (.goto 47, 3) := by decide +kernel
theorem dX8_dullsOf_98 : decode cX8_dullsOf 98 = .ok (.iload_n 2, 1) := by decide +kernel
theorem dX8_dullsOf_99 : decode cX8_dullsOf 99 = .ok (.istore 6, 2) := by decide +kernel
theorem dX8_dullsOf_101 : decode cX8_dullsOf 101 = .ok (.goto 41, 3) := by decide +kernel
theorem dX8_dullsOf_104 : decode cX8_dullsOf 104 = .ok (.iload 5, 2) := by decide +kernel
theorem dX8_dullsOf_106 : decode cX8_dullsOf 106 = .ok (.istore 6, 2) := by decide +kernel
theorem dX8_dullsOf_108 : decode cX8_dullsOf 108 = .ok (.goto 34, 3) := by decide +kernel
theorem dX8_dullsOf_111 : decode cX8_dullsOf 111 = .ok (.iconst 2, 1) := by decide +kernel
theorem dX8_dullsOf_112 : decode cX8_dullsOf 112 = .ok (.iconst 1, 1) := by decide +kernel
theorem dX8_dullsOf_113 : decode cX8_dullsOf 113 = .ok (.iload_n 2, 1) := by decide +kernel
theorem dX8_dullsOf_114 : decode cX8_dullsOf 114 = .ok (.iadd, 1) := by decide +kernel
theorem dX8_dullsOf_115 : decode cX8_dullsOf 115 = .ok (.imul, 1) := by decide +kernel
theorem dX8_dullsOf_116 : decode cX8_dullsOf 116 = .ok (.iload_n 3, 1) := by decide +kernel
theorem dX8_dullsOf_117 : decode cX8_dullsOf 117 = .ok (.iadd, 1) := by decide +kernel
theorem dX8_dullsOf_118 : decode cX8_dullsOf 118 = .ok (.istore 6, 2) := by decide +kernel
theorem dX8_dullsOf_120 : decode cX8_dullsOf 120 = .ok (.goto 22, 3) := by decide +kernel
theorem dX8_dullsOf_123 : decode cX8_dullsOf 123 = .ok (.iload_n 2, 1) := by decide +kernel
theorem dX8_dullsOf_124 : decode cX8_dullsOf 124 = .ok (.iload_n 3, 1) := by decide +kernel
theorem dX8_dullsOf_125 : decode cX8_dullsOf 125 = .ok (.iconst 2, 1) := by decide +kernel
theorem dX8_dullsOf_126 : decode cX8_dullsOf 126 = .ok (.idiv, 1) := by decide +kernel
theorem dX8_dullsOf_127 : decode cX8_dullsOf 127 = .ok (.iadd, 1) := by decide +kernel
theorem dX8_dullsOf_128 : decode cX8_dullsOf 128 = .ok (.istore 6, 2) := by decide +kernel
theorem dX8_dullsOf_130 : decode cX8_dullsOf 130 = .ok (.goto 12, 3) := by decide +kernel
theorem dX8_dullsOf_133 : decode cX8_dullsOf 133 = .ok (.iconst 2, 1) := by decide +kernel
theorem dX8_dullsOf_134 : decode cX8_dullsOf 134 = .ok (.iload 5, 2) := by decide +kernel
theorem dX8_dullsOf_136 : decode cX8_dullsOf 136 = .ok (.imul, 1) := by decide +kernel
theorem dX8_dullsOf_137 : decode cX8_dullsOf 137 = .ok (.istore 6, 2) := by decide +kernel
theorem dX8_dullsOf_139 : decode cX8_dullsOf 139 = .ok (.goto 3, 3) := by decide +kernel
theorem dX8_dullsOf_142 : decode cX8_dullsOf 142 = .ok (.iload 6, 2) := by decide +kernel
theorem dX8_dullsOf_144 : decode cX8_dullsOf 144 = .ok (.aload_n 0, 1) := by decide +kernel
theorem dX8_dullsOf_145 : decode cX8_dullsOf 145 = .ok (.iconst 0, 1) := by decide +kernel
theorem dX8_dullsOf_146 : decode cX8_dullsOf 146 = .ok (.iload_n 2, 1) := by decide +kernel
theorem dX8_dullsOf_147 : decode cX8_dullsOf 147 = .ok (.iload 4, 2) := by decide +kernel
theorem dX8_dullsOf_149 : decode cX8_dullsOf 149 = .ok (.aload_n 0, 1) := by decide +kernel
theorem dX8_dullsOf_150 : decode cX8_dullsOf 150 = .ok (.iload_n 1, 1) := by decide +kernel
theorem dX8_dullsOf_151 : decode cX8_dullsOf 151 = .ok (.iconst 4, 1) := by decide +kernel
theorem dX8_dullsOf_152 : decode cX8_dullsOf 152 = .ok (.invokevirtual 163, 3) := by decide +kernel
theorem dX8_dullsOf_155 : decode cX8_dullsOf 155 = .ok (.iload_n 3, 1) := by decide +kernel
theorem dX8_dullsOf_156 : decode cX8_dullsOf 156 = .ok (.invokevirtual 143, 3) := by decide +kernel
theorem dX8_dullsOf_159 : decode cX8_dullsOf 159 = .ok (.iadd, 1) := by decide +kernel
theorem dX8_dullsOf_160 : decode cX8_dullsOf 160 = .ok (.iconst 0, 1) := by decide +kernel
theorem dX8_dullsOf_161 : decode cX8_dullsOf 161 = .ok (.bipush 99, 2) := by decide +kernel
theorem dX8_dullsOf_163 : decode cX8_dullsOf 163 = .ok (.invokestatic 140, 3) := by decide +kernel
theorem dX8_dullsOf_166 : decode cX8_dullsOf 166 = .ok (.ireturn, 1) := by decide +kernel
theorem dX8_gainsOf_0 : decode cX8_gainsOf 0 = .ok (.bipush 8, 2) := by decide +kernel
theorem dX8_gainsOf_2 : decode cX8_gainsOf 2 = .ok (.iconst 2, 1) := by decide +kernel
theorem dX8_gainsOf_3 : decode cX8_gainsOf 3 = .ok (.iload_n 1, 1) := by decide +kernel
theorem dX8_gainsOf_4 : decode cX8_gainsOf 4 = .ok (.imul, 1) := by decide +kernel
theorem dX8_gainsOf_5 : decode cX8_gainsOf 5 = .ok (.isub, 1) := by decide +kernel
theorem dX8_gainsOf_6 : decode cX8_gainsOf 6 = .ok (.istore_n 2, 1) := by decide +kernel
theorem dX8_gainsOf_7 : decode cX8_gainsOf 7 = .ok (.iload_n 0, 1) := by decide +kernel
theorem dX8_gainsOf_8 : decode cX8_gainsOf 8 = .ok (.tableswitch 79 2 6 #[36, 48, 52, 56, 77], 36) := by decide +kernel
theorem dX8_gainsOf_44 : decode cX8_gainsOf 44 = .ok (.iload_n 1, 1) := by decide +kernel
theorem dX8_gainsOf_45 : decode cX8_gainsOf 45 = .ok (.ifCond .ne 9, 3) := by decide +kernel
theorem dX8_gainsOf_48 : decode cX8_gainsOf 48 = .ok (.iload_n 2, 1) := by decide +kernel
theorem dX8_gainsOf_49 : decode cX8_gainsOf 49 = .ok (.iconst 1, 1) := by decide +kernel
theorem dX8_gainsOf_50 : decode cX8_gainsOf 50 = .ok (.iadd, 1) := by decide +kernel
theorem dX8_gainsOf_51 : decode cX8_gainsOf 51 = .ok (.goto 4, 3) := by decide +kernel
theorem dX8_gainsOf_54 : decode cX8_gainsOf 54 = .ok (.iload_n 2, 1) := by decide +kernel
theorem dX8_gainsOf_55 : decode cX8_gainsOf 55 = .ok (.ireturn, 1) := by decide +kernel
theorem dX8_gainsOf_56 : decode cX8_gainsOf 56 = .ok (.iload_n 2, 1) := by decide +kernel
theorem dX8_gainsOf_57 : decode cX8_gainsOf 57 = .ok (.iconst 1, 1) := by decide +kernel
theorem dX8_gainsOf_58 : decode cX8_gainsOf 58 = .ok (.isub, 1) := by decide +kernel
theorem dX8_gainsOf_59 : decode cX8_gainsOf 59 = .ok (.ireturn, 1) := by decide +kernel
theorem dX8_gainsOf_60 : decode cX8_gainsOf 60 = .ok (.iload_n 2, 1) := by decide +kernel
theorem dX8_gainsOf_61 : decode cX8_gainsOf 61 = .ok (.iconst 2, 1) := by decide +kernel
theorem dX8_gainsOf_62 : decode cX8_gainsOf 62 = .ok (.idiv, 1) := by decide +kernel
theorem dX8_gainsOf_63 : decode cX8_gainsOf 63 = .ok (.ireturn, 1) := by decide +kernel
theorem dX8_gainsOf_64 : decode cX8_gainsOf 64 = .ok (.iload_n 1, 1) := by decide +kernel
theorem dX8_gainsOf_65 : decode cX8_gainsOf 65 = .ok (.ifCond .ne 9, 3) := by decide +kernel
theorem dX8_gainsOf_68 : decode cX8_gainsOf 68 = .ok (.iload_n 2, 1) := by decide +kernel
theorem dX8_gainsOf_69 : decode cX8_gainsOf 69 = .ok (.iconst 1, 1) := by decide +kernel
theorem dX8_gainsOf_70 : decode cX8_gainsOf 70 = .ok (.iadd, 1) := by decide +kernel
theorem dX8_gainsOf_71 : decode cX8_gainsOf 71 = .ok (.goto 13, 3) := by decide +kernel
theorem dX8_gainsOf_74 : decode cX8_gainsOf 74 = .ok (.iload_n 1, 1) := by decide +kernel
theorem dX8_gainsOf_75 : decode cX8_gainsOf 75 = .ok (.iconst 1, 1) := by decide +kernel
theorem dX8_gainsOf_76 : decode cX8_gainsOf 76 = .ok (.if_icmp .ne 7, 3) := by decide +kernel
theorem dX8_gainsOf_79 : decode cX8_gainsOf 79 = .ok (.iload_n 2, 1) := by decide +kernel
theorem dX8_gainsOf_80 : decode cX8_gainsOf 80 = .ok (.goto 4, 3) := by decide +kernel
theorem dX8_gainsOf_83 : decode cX8_gainsOf 83 = .ok (.iconst 0, 1) := by decide +kernel
theorem dX8_gainsOf_84 : decode cX8_gainsOf 84 = .ok (.ireturn, 1) := by decide +kernel
theorem dX8_gainsOf_85 : decode cX8_gainsOf 85 = .ok (.iconst 1, 1) := by decide +kernel
theorem dX8_gainsOf_86 : decode cX8_gainsOf 86 = .ok (.ireturn, 1) := by decide +kernel
theorem dX8_gainsOf_87 : decode cX8_gainsOf 87 = .ok (.iload_n 2, 1) := by decide +kernel
theorem dX8_gainsOf_88 : decode cX8_gainsOf 88 = .ok (.ireturn, 1) := by decide +kernel
theorem dX8_topOf_0 : decode cX8_topOf 0 = .ok (.iload_n 0, 1) := by decide +kernel
theorem dX8_topOf_1 : decode cX8_topOf 1 = .ok (.iconst 3, 1) := by decide +kernel
theorem dX8_topOf_2 : decode cX8_topOf 2 = .ok (.if_icmp .ne 8, 3) := by decide +kernel
theorem dX8_topOf_5 : decode cX8_topOf 5 = .ok (.bipush 99, 2) := by decide +kernel
theorem dX8_topOf_7 : decode cX8_topOf 7 = .ok (.goto 10, 3) := by decide +kernel
theorem dX8_topOf_10 : decode cX8_topOf 10 = .ok (.bipush 40, 2) := by decide +kernel
theorem dX8_topOf_12 : decode cX8_topOf 12 = .ok (.bipush 20, 2) := by decide +kernel
theorem dX8_topOf_14 : decode cX8_topOf 14 = .ok (.iload_n 0, 1) := by decide +kernel
theorem dX8_topOf_15 : decode cX8_topOf 15 = .ok (.imul, 1) := by decide +kernel
theorem dX8_topOf_16 : decode cX8_topOf 16 = .ok (.iadd, 1) := by decide +kernel
theorem dX8_topOf_17 : decode cX8_topOf 17 = .ok (.ireturn, 1) := by decide +kernel
theorem dX8_turns_0 : decode cX8_turns 0 = .ok (.aload_n 0, 1) := by decide +kernel
theorem dX8_turns_1 : decode cX8_turns 1 = .ok (.iload_n 1, 1) := by decide +kernel
theorem dX8_turns_2 : decode cX8_turns 2 = .ok (.iconst 3, 1) := by decide +kernel
theorem dX8_turns_3 : decode cX8_turns 3 = .ok (.iload_n 2, 1) := by decide +kernel
theorem dX8_turns_4 : decode cX8_turns 4 = .ok (.invokestatic 166, 3) := by decide +kernel
theorem dX8_turns_7 : decode cX8_turns 7 = .ok (.aload_n 0, 1) := by decide +kernel
theorem dX8_turns_8 : decode cX8_turns 8 = .ok (.iload_n 1, 1) := by decide +kernel
theorem dX8_turns_9 : decode cX8_turns 9 = .ok (.iconst 3, 1) := by decide +kernel
theorem dX8_turns_10 : decode cX8_turns 10 = .ok (.invokevirtual 163, 3) := by decide +kernel
theorem dX8_turns_13 : decode cX8_turns 13 = .ok (.aload_n 0, 1) := by decide +kernel
theorem dX8_turns_14 : decode cX8_turns 14 = .ok (.iload_n 1, 1) := by decide +kernel
theorem dX8_turns_15 : decode cX8_turns 15 = .ok (.iconst 0, 1) := by decide +kernel
theorem dX8_turns_16 : decode cX8_turns 16 = .ok (.invokevirtual 163, 3) := by decide +kernel
theorem dX8_turns_19 : decode cX8_turns 19 = .ok (.iload_n 2, 1) := by decide +kernel
theorem dX8_turns_20 : decode cX8_turns 20 = .ok (.invokestatic 169, 3) := by decide +kernel
theorem dX8_turns_23 : decode cX8_turns 23 = .ok (.iadd, 1) := by decide +kernel
theorem dX8_turns_24 : decode cX8_turns 24 = .ok (.invokestatic 172, 3) := by decide +kernel
theorem dX8_turns_27 : decode cX8_turns 27 = .ok (.invokevirtual 153, 3) := by decide +kernel
theorem dX8_turns_30 : decode cX8_turns 30 = .ok (.aload_n 0, 1) := by decide +kernel
theorem dX8_turns_31 : decode cX8_turns 31 = .ok (.iload_n 1, 1) := by decide +kernel
theorem dX8_turns_32 : decode cX8_turns 32 = .ok (.iconst 4, 1) := by decide +kernel
theorem dX8_turns_33 : decode cX8_turns 33 = .ok (.aload_n 0, 1) := by decide +kernel
theorem dX8_turns_34 : decode cX8_turns 34 = .ok (.iload_n 1, 1) := by decide +kernel
theorem dX8_turns_35 : decode cX8_turns 35 = .ok (.iconst 4, 1) := by decide +kernel
theorem dX8_turns_36 : decode cX8_turns 36 = .ok (.invokevirtual 163, 3) := by decide +kernel
theorem dX8_turns_39 : decode cX8_turns 39 = .ok (.iconst 3, 1) := by decide +kernel
theorem dX8_turns_40 : decode cX8_turns 40 = .ok (.isub, 1) := by decide +kernel
theorem dX8_turns_41 : decode cX8_turns 41 = .ok (.iload_n 2, 1) := by decide +kernel
theorem dX8_turns_42 : decode cX8_turns 42 = .ok (.iadd, 1) := by decide +kernel
theorem dX8_turns_43 : decode cX8_turns 43 = .ok (.iconst 0, 1) := by decide +kernel
theorem dX8_turns_44 : decode cX8_turns 44 = .ok (.sipush 999, 3) := by decide +kernel
theorem dX8_turns_47 : decode cX8_turns 47 = .ok (.invokestatic 140, 3) := by decide +kernel
theorem dX8_turns_50 : decode cX8_turns 50 = .ok (.invokevirtual 153, 3) := by decide +kernel
theorem dX8_turns_53 : decode cX8_turns 53 = .ok (.aload_n 0, 1) := by decide +kernel
theorem dX8_turns_54 : decode cX8_turns 54 = .ok (.iload_n 1, 1) := by decide +kernel
theorem dX8_turns_55 : decode cX8_turns 55 = .ok (.iconst 5, 1) := by decide +kernel
theorem dX8_turns_56 : decode cX8_turns 56 = .ok (.aload_n 0, 1) := by decide +kernel
theorem dX8_turns_57 : decode cX8_turns 57 = .ok (.iload_n 1, 1) := by decide +kernel
theorem dX8_turns_58 : decode cX8_turns 58 = .ok (.iconst 5, 1) := by decide +kernel
theorem dX8_turns_59 : decode cX8_turns 59 = .ok (.invokevirtual 163, 3) := by decide +kernel
theorem dX8_turns_62 : decode cX8_turns 62 = .ok (.bipush 9, 2) := by decide +kernel
theorem dX8_turns_64 : decode cX8_turns 64 = .ok (.iadd, 1) := by decide +kernel
theorem dX8_turns_65 : decode cX8_turns 65 = .ok (.iconst 2, 1) := by decide +kernel
theorem dX8_turns_66 : decode cX8_turns 66 = .ok (.iload_n 2, 1) := by decide +kernel
theorem dX8_turns_67 : decode cX8_turns 67 = .ok (.imul, 1) := by decide +kernel
theorem dX8_turns_68 : decode cX8_turns 68 = .ok (.isub, 1) := by decide +kernel
theorem dX8_turns_69 : decode cX8_turns 69 = .ok (.aload_n 0, 1) := by decide +kernel
theorem dX8_turns_70 : decode cX8_turns 70 = .ok (.getfield 7, 3) := by decide +kernel
theorem dX8_turns_73 : decode cX8_turns 73 = .ok (.iconst 4, 1) := by decide +kernel
theorem dX8_turns_74 : decode cX8_turns 74 = .ok (.iaload, 1) := by decide +kernel
theorem dX8_turns_75 : decode cX8_turns 75 = .ok (.isub, 1) := by decide +kernel
theorem dX8_turns_76 : decode cX8_turns 76 = .ok (.iconst 0, 1) := by decide +kernel
theorem dX8_turns_77 : decode cX8_turns 77 = .ok (.bipush 99, 2) := by decide +kernel
theorem dX8_turns_79 : decode cX8_turns 79 = .ok (.invokestatic 140, 3) := by decide +kernel
theorem dX8_turns_82 : decode cX8_turns 82 = .ok (.invokevirtual 153, 3) := by decide +kernel
theorem dX8_turns_85 : decode cX8_turns 85 = .ok (.aload_n 0, 1) := by decide +kernel
theorem dX8_turns_86 : decode cX8_turns 86 = .ok (.iload_n 1, 1) := by decide +kernel
theorem dX8_turns_87 : decode cX8_turns 87 = .ok (.iconst 4, 1) := by decide +kernel
theorem dX8_turns_88 : decode cX8_turns 88 = .ok (.invokevirtual 163, 3) := by decide +kernel
theorem dX8_turns_91 : decode cX8_turns 91 = .ok (.ifCond .ne 14, 3) := by decide +kernel
theorem dX8_turns_94 : decode cX8_turns 94 = .ok (.aload_n 0, 1) := by decide +kernel
theorem dX8_turns_95 : decode cX8_turns 95 = .ok (.iload_n 1, 1) := by decide +kernel
theorem dX8_turns_96 : decode cX8_turns 96 = .ok (.iconst 0, 1) := by decide +kernel
theorem dX8_turns_97 : decode cX8_turns 97 = .ok (.bipush 6, 2) := by decide +kernel
theorem dX8_turns_99 : decode cX8_turns 99 = .ok (.invokevirtual 153, 3) := by decide +kernel
theorem dX8_turns_102 : decode cX8_turns 102 = .ok (.goto 28, 3) := by decide +kernel
theorem dX8_turns_105 : decode cX8_turns 105 = .ok (.aload_n 0, 1) := by decide +kernel
theorem dX8_turns_106 : decode cX8_turns 106 = .ok (.iload_n 1, 1) := by decide +kernel
theorem dX8_turns_107 : decode cX8_turns 107 = .ok (.iconst 5, 1) := by decide +kernel
theorem dX8_turns_108 : decode cX8_turns 108 = .ok (.invokevirtual 163, 3) := by decide +kernel
theorem dX8_turns_111 : decode cX8_turns 111 = .ok (.bipush 60, 2) := by decide +kernel
theorem dX8_turns_113 : decode cX8_turns 113 = .ok (.if_icmp .lt 17, 3) := by decide +kernel
theorem dX8_turns_116 : decode cX8_turns 116 = .ok (.aload_n 0, 1) := by decide +kernel
theorem dX8_turns_117 : decode cX8_turns 117 = .ok (.iload_n 1, 1) := by decide +kernel
theorem dX8_turns_118 : decode cX8_turns 118 = .ok (.iconst 0, 1) := by decide +kernel
theorem dX8_turns_119 : decode cX8_turns 119 = .ok (.iconst 4, 1) := by decide +kernel
theorem dX8_turns_120 : decode cX8_turns 120 = .ok (.invokevirtual 153, 3) := by decide +kernel
theorem dX8_turns_123 : decode cX8_turns 123 = .ok (.aload_n 0, 1) := by decide +kernel
theorem dX8_turns_124 : decode cX8_turns 124 = .ok (.iload_n 1, 1) := by decide +kernel
theorem dX8_turns_125 : decode cX8_turns 125 = .ok (.iconst 5, 1) := by decide +kernel
theorem dX8_turns_126 : decode cX8_turns 126 = .ok (.iconst 0, 1) := by decide +kernel
theorem dX8_turns_127 : decode cX8_turns 127 = .ok (.invokevirtual 153, 3) := by decide +kernel
theorem dX8_turns_130 : decode cX8_turns 130 = .ok (.return_, 1) := by decide +kernel
theorem dX8_isAs_0 : decode cX8_isAs 0 = .ok (.iload_n 2, 1) := by decide +kernel
theorem dX8_isAs_1 : decode cX8_isAs 1 = .ok (.bipush 9, 2) := by decide +kernel
theorem dX8_isAs_3 : decode cX8_isAs 3 = .ok (.if_icmp .ge 12, 3) := by decide +kernel
theorem dX8_isAs_6 : decode cX8_isAs 6 = .ok (.aload_n 0, 1) := by decide +kernel
theorem dX8_isAs_7 : decode cX8_isAs 7 = .ok (.iload_n 1, 1) := by decide +kernel
theorem dX8_isAs_8 : decode cX8_isAs 8 = .ok (.iload_n 2, 1) := by decide +kernel
theorem dX8_isAs_9 : decode cX8_isAs 9 = .ok (.invokevirtual 163, 3) := by decide +kernel
theorem dX8_isAs_12 : decode cX8_isAs 12 = .ok (.goto 8, 3) := by decide +kernel
theorem dX8_isAs_15 : decode cX8_isAs 15 = .ok (.aload_n 0, 1) := by decide +kernel
theorem dX8_isAs_16 : decode cX8_isAs 16 = .ok (.iload_n 1, 1) := by decide +kernel
theorem dX8_isAs_17 : decode cX8_isAs 17 = .ok (.invokevirtual 175, 3) := by decide +kernel
theorem dX8_isAs_20 : decode cX8_isAs 20 = .ok (.ireturn, 1) := by decide +kernel
theorem dX8_ofKnife_0 : decode cX8_ofKnife 0 = .ok (.aload_n 0, 1) := by decide +kernel
theorem dX8_ofKnife_1 : decode cX8_ofKnife 1 = .ok (.iload_n 1, 1) := by decide +kernel
theorem dX8_ofKnife_2 : decode cX8_ofKnife 2 = .ok (.invokevirtual 178, 3) := by decide +kernel
theorem dX8_ofKnife_5 : decode cX8_ofKnife 5 = .ok (.ifCond .eq 24, 3) := by decide +kernel
theorem dX8_ofKnife_8 : decode cX8_ofKnife 8 = .ok (.iload_n 2, 1) := by decide +kernel
theorem dX8_ofKnife_9 : decode cX8_ofKnife 9 = .ok (.i2l, 1) := by decide +kernel
theorem dX8_ofKnife_10 : decode cX8_ofKnife 10 = .ok (.lconst 0, 1) := by decide +kernel
theorem dX8_ofKnife_11 : decode cX8_ofKnife 11 = .ok (.ldc2_w 181, 3) := by decide +kernel
theorem dX8_ofKnife_14 : decode cX8_ofKnife 14 = .ok (.invokestatic 50, 3) := by decide +kernel
theorem dX8_ofKnife_17 : decode cX8_ofKnife 17 = .ok (.ifCond .eq 12, 3) := by decide +kernel
theorem dX8_ofKnife_20 : decode cX8_ofKnife 20 = .ok (.aload_n 0, 1) := by decide +kernel
theorem dX8_ofKnife_21 : decode cX8_ofKnife 21 = .ok (.iload_n 1, 1) := by decide +kernel
theorem dX8_ofKnife_22 : decode cX8_ofKnife 22 = .ok (.iload_n 2, 1) := by decide +kernel
theorem dX8_ofKnife_23 : decode cX8_ofKnife 23 = .ok (.invokevirtual 183, 3) := by decide +kernel
theorem dX8_ofKnife_26 : decode cX8_ofKnife 26 = .ok (.goto 8, 3) := by decide +kernel
theorem dX8_ofKnife_29 : decode cX8_ofKnife 29 = .ok (.aload_n 0, 1) := by decide +kernel
theorem dX8_ofKnife_30 : decode cX8_ofKnife 30 = .ok (.iconst 1, 1) := by decide +kernel
theorem dX8_ofKnife_31 : decode cX8_ofKnife 31 = .ok (.invokevirtual 127, 3) := by decide +kernel
theorem dX8_ofKnife_34 : decode cX8_ofKnife 34 = .ok (.ireturn, 1) := by decide +kernel
theorem dX8_mostOf_0 : decode cX8_mostOf 0 = .ok (.iload_n 0, 1) := by decide +kernel
theorem dX8_mostOf_1 : decode cX8_mostOf 1 = .ok (.tableswitch 53 2 7 #[39, 41, 44, 41, 48, 51], 39) := by decide +kernel
theorem dX8_mostOf_40 : decode cX8_mostOf 40 = .ok (.iconst 5, 1) := by decide +kernel
theorem dX8_mostOf_41 : decode cX8_mostOf 41 = .ok (.ireturn, 1) := by decide +kernel
theorem dX8_mostOf_42 : decode cX8_mostOf 42 = .ok (.bipush 99, 2) := by decide +kernel
theorem dX8_mostOf_44 : decode cX8_mostOf 44 = .ok (.ireturn, 1) := by decide +kernel
theorem dX8_mostOf_45 : decode cX8_mostOf 45 = .ok (.sipush 999, 3) := by decide +kernel
theorem dX8_mostOf_48 : decode cX8_mostOf 48 = .ok (.ireturn, 1) := by decide +kernel
theorem dX8_mostOf_49 : decode cX8_mostOf 49 = .ok (.bipush 9, 2) := by decide +kernel
theorem dX8_mostOf_51 : decode cX8_mostOf 51 = .ok (.ireturn, 1) := by decide +kernel
theorem dX8_mostOf_52 : decode cX8_mostOf 52 = .ok (.iconst 3, 1) := by decide +kernel
theorem dX8_mostOf_53 : decode cX8_mostOf 53 = .ok (.ireturn, 1) := by decide +kernel
theorem dX8_mostOf_54 : decode cX8_mostOf 54 = .ok (.iconst (-1), 1) := by decide +kernel
theorem dX8_mostOf_55 : decode cX8_mostOf 55 = .ok (.ireturn, 1) := by decide +kernel
theorem dX8_change_0 : decode cX8_change 0 = .ok (.aload_n 0, 1) := by decide +kernel
theorem dX8_change_1 : decode cX8_change 1 = .ok (.iload_n 1, 1) := by decide +kernel
theorem dX8_change_2 : decode cX8_change 2 = .ok (.invokevirtual 178, 3) := by decide +kernel
theorem dX8_change_5 : decode cX8_change 5 = .ok (.ifCond .eq 17, 3) := by decide +kernel
theorem dX8_change_8 : decode cX8_change 8 = .ok (.iload_n 3, 1) := by decide +kernel
theorem dX8_change_9 : decode cX8_change 9 = .ok (.i2l, 1) := by decide +kernel
theorem dX8_change_10 : decode cX8_change 10 = .ok (.lconst 0, 1) := by decide +kernel
theorem dX8_change_11 : decode cX8_change 11 = .ok (.iload_n 2, 1) := by decide +kernel
theorem dX8_change_12 : decode cX8_change 12 = .ok (.invokestatic 186, 3) := by decide +kernel
theorem dX8_change_15 : decode cX8_change 15 = .ok (.i2l, 1) := by decide +kernel
theorem dX8_change_16 : decode cX8_change 16 = .ok (.invokestatic 50, 3) := by decide +kernel
theorem dX8_change_19 : decode cX8_change 19 = .ok (.ifCond .ne 9, 3) := by decide +kernel
theorem dX8_change_22 : decode cX8_change 22 = .ok (.aload_n 0, 1) := by decide +kernel
theorem dX8_change_23 : decode cX8_change 23 = .ok (.iconst 1, 1) := by decide +kernel
theorem dX8_change_24 : decode cX8_change 24 = .ok (.invokevirtual 127, 3) := by decide +kernel
theorem dX8_change_27 : decode cX8_change 27 = .ok (.ireturn, 1) := by decide +kernel
theorem dX8_change_28 : decode cX8_change 28 = .ok (.aload_n 0, 1) := by decide +kernel
theorem dX8_change_29 : decode cX8_change 29 = .ok (.iload_n 1, 1) := by decide +kernel
theorem dX8_change_30 : decode cX8_change 30 = .ok (.iload_n 2, 1) := by decide +kernel
theorem dX8_change_31 : decode cX8_change 31 = .ok (.invokevirtual 163, 3) := by decide +kernel
theorem dX8_change_34 : decode cX8_change 34 = .ok (.istore 4, 2) := by decide +kernel
theorem dX8_change_36 : decode cX8_change 36 = .ok (.aload_n 0, 1) := by decide +kernel
theorem dX8_change_37 : decode cX8_change 37 = .ok (.iload_n 1, 1) := by decide +kernel
theorem dX8_change_38 : decode cX8_change 38 = .ok (.iload_n 2, 1) := by decide +kernel
theorem dX8_change_39 : decode cX8_change 39 = .ok (.iload_n 3, 1) := by decide +kernel
theorem dX8_change_40 : decode cX8_change 40 = .ok (.invokevirtual 153, 3) := by decide +kernel
theorem dX8_change_43 : decode cX8_change 43 = .ok (.iload 4, 2) := by decide +kernel
theorem dX8_change_45 : decode cX8_change 45 = .ok (.ireturn, 1) := by decide +kernel
theorem dX8_become_0 : decode cX8_become 0 = .ok (.aload_n 0, 1) := by decide +kernel
theorem dX8_become_1 : decode cX8_become 1 = .ok (.iload_n 1, 1) := by decide +kernel
theorem dX8_become_2 : decode cX8_become 2 = .ok (.invokevirtual 178, 3) := by decide +kernel
theorem dX8_become_5 : decode cX8_become 5 = .ok (.ifCond .eq 15, 3) := by decide +kernel
theorem dX8_become_8 : decode cX8_become 8 = .ok (.iload_n 2, 1) := by decide +kernel
theorem dX8_become_9 : decode cX8_become 9 = .ok (.i2l, 1) := by decide +kernel
theorem dX8_become_10 : decode cX8_become 10 = .ok (.lconst 0, 1) := by decide +kernel
theorem dX8_become_11 : decode cX8_become 11 = .ok (.ldc2_w 147, 3) := by decide +kernel
theorem dX8_become_14 : decode cX8_become 14 = .ok (.invokestatic 50, 3) := by decide +kernel
theorem dX8_become_17 : decode cX8_become 17 = .ok (.ifCond .ne 9, 3) := by decide +kernel
theorem dX8_become_20 : decode cX8_become 20 = .ok (.aload_n 0, 1) := by decide +kernel
theorem dX8_become_21 : decode cX8_become 21 = .ok (.iconst 1, 1) := by decide +kernel
theorem dX8_become_22 : decode cX8_become 22 = .ok (.invokevirtual 127, 3) := by decide +kernel
theorem dX8_become_25 : decode cX8_become 25 = .ok (.ireturn, 1) := by decide +kernel
theorem dX8_become_26 : decode cX8_become 26 = .ok (.aload_n 0, 1) := by decide +kernel
theorem dX8_become_27 : decode cX8_become 27 = .ok (.iload_n 1, 1) := by decide +kernel
theorem dX8_become_28 : decode cX8_become 28 = .ok (.iconst 0, 1) := by decide +kernel
theorem dX8_become_29 : decode cX8_become 29 = .ok (.invokevirtual 163, 3) := by decide +kernel
theorem dX8_become_32 : decode cX8_become 32 = .ok (.istore_n 3, 1) := by decide +kernel
theorem dX8_become_33 : decode cX8_become 33 = .ok (.aload_n 0, 1) := by decide +kernel
theorem dX8_become_34 : decode cX8_become 34 = .ok (.iload_n 1, 1) := by decide +kernel
theorem dX8_become_35 : decode cX8_become 35 = .ok (.iconst 0, 1) := by decide +kernel
theorem dX8_become_36 : decode cX8_become 36 = .ok (.iload_n 2, 1) := by decide +kernel
theorem dX8_become_37 : decode cX8_become 37 = .ok (.bipush 10, 2) := by decide +kernel
theorem dX8_become_39 : decode cX8_become 39 = .ok (.idiv, 1) := by decide +kernel
theorem dX8_become_40 : decode cX8_become 40 = .ok (.invokevirtual 153, 3) := by decide +kernel
theorem dX8_become_43 : decode cX8_become 43 = .ok (.aload_n 0, 1) := by decide +kernel
theorem dX8_become_44 : decode cX8_become 44 = .ok (.iload_n 1, 1) := by decide +kernel
theorem dX8_become_45 : decode cX8_become 45 = .ok (.iconst 1, 1) := by decide +kernel
theorem dX8_become_46 : decode cX8_become 46 = .ok (.iload_n 2, 1) := by decide +kernel
theorem dX8_become_47 : decode cX8_become 47 = .ok (.bipush 10, 2) := by decide +kernel
theorem dX8_become_49 : decode cX8_become 49 = .ok (.irem, 1) := by decide +kernel
theorem dX8_become_50 : decode cX8_become 50 = .ok (.invokevirtual 153, 3) := by decide +kernel
theorem dX8_become_53 : decode cX8_become 53 = .ok (.iload_n 3, 1) := by decide +kernel
theorem dX8_become_54 : decode cX8_become 54 = .ok (.ireturn, 1) := by decide +kernel
theorem dX8_above_0 : decode cX8_above 0 = .ok (.iload_n 0, 1) := by decide +kernel
theorem dX8_above_1 : decode cX8_above 1 = .ok (.iconst 4, 1) := by decide +kernel
theorem dX8_above_2 : decode cX8_above 2 = .ok (.if_icmp .ge 7, 3) := by decide +kernel
theorem dX8_above_5 : decode cX8_above 5 = .ok (.iconst 0, 1) := by decide +kernel
theorem dX8_above_6 : decode cX8_above 6 = .ok (.goto 6, 3) := by decide +kernel
theorem dX8_above_9 : decode cX8_above 9 = .ok (.iload_n 0, 1) := by decide +kernel
theorem dX8_above_10 : decode cX8_above 10 = .ok (.iconst 3, 1) := by decide +kernel
theorem dX8_above_11 : decode cX8_above 11 = .ok (.isub, 1) := by decide +kernel
theorem dX8_above_12 : decode cX8_above 12 = .ok (.ireturn, 1) := by decide +kernel
theorem dX8_as_0 : decode cX8_as 0 = .ok (.aload_n 0, 1) := by decide +kernel
theorem dX8_as_1 : decode cX8_as 1 = .ok (.iload_n 1, 1) := by decide +kernel
theorem dX8_as_2 : decode cX8_as 2 = .ok (.invokevirtual 178, 3) := by decide +kernel
theorem dX8_as_5 : decode cX8_as 5 = .ok (.ifCond .eq 15, 3) := by decide +kernel
theorem dX8_as_8 : decode cX8_as 8 = .ok (.iload_n 2, 1) := by decide +kernel
theorem dX8_as_9 : decode cX8_as 9 = .ok (.i2l, 1) := by decide +kernel
theorem dX8_as_10 : decode cX8_as 10 = .ok (.lconst 0, 1) := by decide +kernel
theorem dX8_as_11 : decode cX8_as 11 = .ok (.ldc2_w 189, 3) := by decide +kernel
theorem dX8_as_14 : decode cX8_as 14 = .ok (.invokestatic 50, 3) := by decide +kernel
theorem dX8_as_17 : decode cX8_as 17 = .ok (.ifCond .ne 9, 3) := by decide +kernel
theorem dX8_as_20 : decode cX8_as 20 = .ok (.aload_n 0, 1) := by decide +kernel
theorem dX8_as_21 : decode cX8_as 21 = .ok (.iconst 1, 1) := by decide +kernel
theorem dX8_as_22 : decode cX8_as 22 = .ok (.invokevirtual 127, 3) := by decide +kernel
theorem dX8_as_25 : decode cX8_as 25 = .ok (.ireturn, 1) := by decide +kernel
theorem dX8_as_26 : decode cX8_as 26 = .ok (.aload_n 0, 1) := by decide +kernel
theorem dX8_as_27 : decode cX8_as 27 = .ok (.iload_n 1, 1) := by decide +kernel
theorem dX8_as_28 : decode cX8_as 28 = .ok (.iconst 0, 1) := by decide +kernel
theorem dX8_as_29 : decode cX8_as 29 = .ok (.invokevirtual 163, 3) := by decide +kernel
theorem dX8_as_32 : decode cX8_as 32 = .ok (.istore_n 3, 1) := by decide +kernel
theorem dX8_as_33 : decode cX8_as 33 = .ok (.iload_n 2, 1) := by decide +kernel
theorem dX8_as_34 : decode cX8_as 34 = .ok (.ifCond .eq 16, 3) := by decide +kernel
theorem dX8_as_37 : decode cX8_as 37 = .ok (.iload_n 2, 1) := by decide +kernel
theorem dX8_as_38 : decode cX8_as 38 = .ok (.iload_n 3, 1) := by decide +kernel
theorem dX8_as_39 : decode cX8_as 39 = .ok (.if_icmp .eq 11, 3) := by decide +kernel
theorem dX8_as_42 : decode cX8_as 42 = .ok (.iload_n 2, 1) := by decide +kernel
theorem dX8_as_43 : decode cX8_as 43 = .ok (.iload_n 3, 1) := by decide +kernel
theorem dX8_as_44 : decode cX8_as 44 = .ok (.invokestatic 191, 3) := by decide +kernel
theorem dX8_as_47 : decode cX8_as 47 = .ok (.if_icmp .ne 12, 3) := by decide +kernel
theorem dX8_as_50 : decode cX8_as 50 = .ok (.aload_n 0, 1) := by decide +kernel
theorem dX8_as_51 : decode cX8_as 51 = .ok (.iload_n 1, 1) := by decide +kernel
theorem dX8_as_52 : decode cX8_as 52 = .ok (.iconst 1, 1) := by decide +kernel
theorem dX8_as_53 : decode cX8_as 53 = .ok (.invokevirtual 163, 3) := by decide +kernel
theorem dX8_as_56 : decode cX8_as 56 = .ok (.goto 8, 3) := by decide +kernel
theorem dX8_as_59 : decode cX8_as 59 = .ok (.aload_n 0, 1) := by decide +kernel
theorem dX8_as_60 : decode cX8_as 60 = .ok (.iconst 5, 1) := by decide +kernel
theorem dX8_as_61 : decode cX8_as 61 = .ok (.invokevirtual 127, 3) := by decide +kernel
theorem dX8_as_64 : decode cX8_as 64 = .ok (.ireturn, 1) := by decide +kernel
theorem dX8_gains_0 : decode cX8_gains 0 = .ok (.aload_n 0, 1) := by decide +kernel
theorem dX8_gains_1 : decode cX8_gains 1 = .ok (.iload_n 1, 1) := by decide +kernel
theorem dX8_gains_2 : decode cX8_gains 2 = .ok (.invokevirtual 178, 3) := by decide +kernel
theorem dX8_gains_5 : decode cX8_gains 5 = .ok (.ifCond .eq 28, 3) := by decide +kernel
theorem dX8_gains_8 : decode cX8_gains 8 = .ok (.iload_n 2, 1) := by decide +kernel
theorem dX8_gains_9 : decode cX8_gains 9 = .ok (.i2l, 1) := by decide +kernel
theorem dX8_gains_10 : decode cX8_gains 10 = .ok (.lconst 0, 1) := by decide +kernel
theorem dX8_gains_11 : decode cX8_gains 11 = .ok (.ldc2_w 194, 3) := by decide +kernel
theorem dX8_gains_14 : decode cX8_gains 14 = .ok (.invokestatic 50, 3) := by decide +kernel
theorem dX8_gains_17 : decode cX8_gains 17 = .ok (.ifCond .eq 16, 3) := by decide +kernel
theorem dX8_gains_20 : decode cX8_gains 20 = .ok (.aload_n 0, 1) := by decide +kernel
theorem dX8_gains_21 : decode cX8_gains 21 = .ok (.iload_n 1, 1) := by decide +kernel
theorem dX8_gains_22 : decode cX8_gains 22 = .ok (.iconst 0, 1) := by decide +kernel
theorem dX8_gains_23 : decode cX8_gains 23 = .ok (.invokevirtual 163, 3) := by decide +kernel
theorem dX8_gains_26 : decode cX8_gains 26 = .ok (.iload_n 2, 1) := by decide +kernel
theorem dX8_gains_27 : decode cX8_gains 27 = .ok (.invokestatic 169, 3) := by decide +kernel
theorem dX8_gains_30 : decode cX8_gains 30 = .ok (.goto 8, 3) := by decide +kernel
theorem dX8_gains_33 : decode cX8_gains 33 = .ok (.aload_n 0, 1) := by decide +kernel
theorem dX8_gains_34 : decode cX8_gains 34 = .ok (.iconst 1, 1) := by decide +kernel
theorem dX8_gains_35 : decode cX8_gains 35 = .ok (.invokevirtual 127, 3) := by decide +kernel
theorem dX8_gains_38 : decode cX8_gains 38 = .ok (.ireturn, 1) := by decide +kernel
theorem dX8_turn_0 : decode cX8_turn 0 = .ok (.aload_n 0, 1) := by decide +kernel
theorem dX8_turn_1 : decode cX8_turn 1 = .ok (.iload_n 1, 1) := by decide +kernel
theorem dX8_turn_2 : decode cX8_turn 2 = .ok (.invokevirtual 178, 3) := by decide +kernel
theorem dX8_turn_5 : decode cX8_turn 5 = .ok (.ifCond .eq 27, 3) := by decide +kernel
theorem dX8_turn_8 : decode cX8_turn 8 = .ok (.iload_n 2, 1) := by decide +kernel
theorem dX8_turn_9 : decode cX8_turn 9 = .ok (.i2l, 1) := by decide +kernel
theorem dX8_turn_10 : decode cX8_turn 10 = .ok (.lconst 0, 1) := by decide +kernel
theorem dX8_turn_11 : decode cX8_turn 11 = .ok (.ldc2_w 194, 3) := by decide +kernel
theorem dX8_turn_14 : decode cX8_turn 14 = .ok (.invokestatic 50, 3) := by decide +kernel
theorem dX8_turn_17 : decode cX8_turn 17 = .ok (.ifCond .eq 15, 3) := by decide +kernel
theorem dX8_turn_20 : decode cX8_turn 20 = .ok (.iload_n 3, 1) := by decide +kernel
theorem dX8_turn_21 : decode cX8_turn 21 = .ok (.i2l, 1) := by decide +kernel
theorem dX8_turn_22 : decode cX8_turn 22 = .ok (.lconst 1, 1) := by decide +kernel
theorem dX8_turn_23 : decode cX8_turn 23 = .ok (.ldc2_w 196, 3) := by decide +kernel
theorem dX8_turn_26 : decode cX8_turn 26 = .ok (.invokestatic 50, 3) := by decide +kernel
theorem dX8_turn_29 : decode cX8_turn 29 = .ok (.ifCond .ne 9, 3) := by decide +kernel
theorem dX8_turn_32 : decode cX8_turn 32 = .ok (.aload_n 0, 1) := by decide +kernel
theorem dX8_turn_33 : decode cX8_turn 33 = .ok (.iconst 1, 1) := by decide +kernel
theorem dX8_turn_34 : decode cX8_turn 34 = .ok (.invokevirtual 127, 3) := by decide +kernel
theorem dX8_turn_37 : decode cX8_turn 37 = .ok (.ireturn, 1) := by decide +kernel
theorem dX8_turn_38 : decode cX8_turn 38 = .ok (.iconst 0, 1) := by decide +kernel
theorem dX8_turn_39 : decode cX8_turn 39 = .ok (.istore 4, 2) := by decide +kernel
theorem dX8_turn_41 : decode cX8_turn 41 = .ok (.iload 4, 2) := by decide +kernel
theorem dX8_turn_43 : decode cX8_turn 43 = .ok (.iload_n 3, 1) := by decide +kernel
theorem dX8_turn_44 : decode cX8_turn 44 = .ok (.if_icmp .ge 15, 3) := by decide +kernel
theorem dX8_turn_47 : decode cX8_turn 47 = .ok (.aload_n 0, 1) := by decide +kernel
theorem dX8_turn_48 : decode cX8_turn 48 = .ok (.iload_n 1, 1) := by decide +kernel
theorem dX8_turn_49 : decode cX8_turn 49 = .ok (.iload_n 2, 1) := by decide +kernel
theorem dX8_turn_50 : decode cX8_turn 50 = .ok (.invokevirtual 198, 3) := by decide +kernel
theorem dX8_turn_53 : decode cX8_turn 53 = .ok (.iinc 4 1, 3) := by decide +kernel
theorem dX8_turn_56 : decode cX8_turn 56 = .ok (.goto (-15), 3) := by decide +kernel
theorem dX8_turn_59 : decode cX8_turn 59 = .ok (.aload_n 0, 1) := by decide +kernel
theorem dX8_turn_60 : decode cX8_turn 60 = .ok (.iload_n 1, 1) := by decide +kernel
theorem dX8_turn_61 : decode cX8_turn 61 = .ok (.iconst 3, 1) := by decide +kernel
theorem dX8_turn_62 : decode cX8_turn 62 = .ok (.invokevirtual 163, 3) := by decide +kernel
theorem dX8_turn_65 : decode cX8_turn 65 = .ok (.ireturn, 1) := by decide +kernel
theorem dX8_set_0 : decode cX8_set 0 = .ok (.iload_n 1, 1) := by decide +kernel
theorem dX8_set_1 : decode cX8_set 1 = .ok (.iconst 5, 1) := by decide +kernel
theorem dX8_set_2 : decode cX8_set 2 = .ok (.if_icmp .ne 15, 3) := by decide +kernel
theorem dX8_set_5 : decode cX8_set 5 = .ok (.iload_n 2, 1) := by decide +kernel
theorem dX8_set_6 : decode cX8_set 6 = .ok (.i2l, 1) := by decide +kernel
theorem dX8_set_7 : decode cX8_set 7 = .ok (.lconst 0, 1) := by decide +kernel
theorem dX8_set_8 : decode cX8_set 8 = .ok (.ldc2_w 202, 3) := by decide +kernel
theorem dX8_set_11 : decode cX8_set 11 = .ok (.invokestatic 50, 3) := by decide +kernel
theorem dX8_set_14 : decode cX8_set 14 = .ok (.goto 50, 3) := by decide +kernel
theorem dX8_set_17 : decode cX8_set 17 = .ok (.iload_n 1, 1) := by decide +kernel
theorem dX8_set_18 : decode cX8_set 18 = .ok (.bipush 6, 2) := by decide +kernel
theorem dX8_set_20 : decode cX8_set 20 = .ok (.if_icmp .ne 15, 3) := by decide +kernel
theorem dX8_set_23 : decode cX8_set 23 = .ok (.iload_n 2, 1) := by decide +kernel
theorem dX8_set_24 : decode cX8_set 24 = .ok (.i2l, 1) := by decide +kernel
theorem dX8_set_25 : decode cX8_set 25 = .ok (.lconst 1, 1) := by decide +kernel
theorem dX8_set_26 : decode cX8_set 26 = .ok (.ldc2_w 204, 3) := by decide +kernel
theorem dX8_set_29 : decode cX8_set 29 = .ok (.invokestatic 50, 3) := by decide +kernel
theorem dX8_set_32 : decode cX8_set 32 = .ok (.goto 32, 3) := by decide +kernel
theorem dX8_set_35 : decode cX8_set 35 = .ok (.iload_n 1, 1) := by decide +kernel
theorem dX8_set_36 : decode cX8_set 36 = .ok (.i2l, 1) := by decide +kernel
theorem dX8_set_37 : decode cX8_set 37 = .ok (.lconst 0, 1) := by decide +kernel
theorem dX8_set_38 : decode cX8_set 38 = .ok (.ldc2_w 206, 3) := by decide +kernel
theorem dX8_set_41 : decode cX8_set 41 = .ok (.invokestatic 50, 3) := by decide +kernel
theorem dX8_set_44 : decode cX8_set 44 = .ok (.ifCond .eq 19, 3) := by decide +kernel
theorem dX8_set_47 : decode cX8_set 47 = .ok (.iload_n 2, 1) := by decide +kernel
theorem dX8_set_48 : decode cX8_set 48 = .ok (.i2l, 1) := by decide +kernel
theorem dX8_set_49 : decode cX8_set 49 = .ok (.lconst 0, 1) := by decide +kernel
theorem dX8_set_50 : decode cX8_set 50 = .ok (.ldc2_w 181, 3) := by decide +kernel
theorem dX8_set_53 : decode cX8_set 53 = .ok (.invokestatic 50, 3) := by decide +kernel
theorem dX8_set_56 : decode cX8_set 56 = .ok (.ifCond .eq 7, 3) := by decide +kernel
theorem dX8_set_59 : decode cX8_set 59 = .ok (.iconst 1, 1) := by decide +kernel
theorem dX8_set_60 : decode cX8_set 60 = .ok (.goto 4, 3) := by decide +kernel
theorem dX8_set_63 : decode cX8_set 63 = .ok (.iconst 0, 1) := by decide +kernel
theorem dX8_set_64 : decode cX8_set 64 = .ok (.istore_n 3, 1) := by decide +kernel
theorem dX8_set_65 : decode cX8_set 65 = .ok (.iload_n 3, 1) := by decide +kernel
theorem dX8_set_66 : decode cX8_set 66 = .ok (.ifCond .ne 9, 3) := by decide +kernel
theorem dX8_set_69 : decode cX8_set 69 = .ok (.aload_n 0, 1) := by decide +kernel
theorem dX8_set_70 : decode cX8_set 70 = .ok (.iconst 1, 1) := by decide +kernel
theorem dX8_set_71 : decode cX8_set 71 = .ok (.invokevirtual 127, 3) := by decide +kernel
theorem dX8_set_74 : decode cX8_set 74 = .ok (.ireturn, 1) := by decide +kernel
theorem dX8_set_75 : decode cX8_set 75 = .ok (.aload_n 0, 1) := by decide +kernel
theorem dX8_set_76 : decode cX8_set 76 = .ok (.getfield 7, 3) := by decide +kernel
theorem dX8_set_79 : decode cX8_set 79 = .ok (.iload_n 1, 1) := by decide +kernel
theorem dX8_set_80 : decode cX8_set 80 = .ok (.iaload, 1) := by decide +kernel
theorem dX8_set_81 : decode cX8_set 81 = .ok (.istore 4, 2) := by decide +kernel
theorem dX8_set_83 : decode cX8_set 83 = .ok (.aload_n 0, 1) := by decide +kernel
theorem dX8_set_84 : decode cX8_set 84 = .ok (.getfield 7, 3) := by decide +kernel
theorem dX8_set_87 : decode cX8_set 87 = .ok (.iload_n 1, 1) := by decide +kernel
theorem dX8_set_88 : decode cX8_set 88 = .ok (.iload_n 2, 1) := by decide +kernel
theorem dX8_set_89 : decode cX8_set 89 = .ok (.iastore, 1) := by decide +kernel
theorem dX8_set_90 : decode cX8_set 90 = .ok (.iload 4, 2) := by decide +kernel
theorem dX8_set_92 : decode cX8_set 92 = .ok (.ireturn, 1) := by decide +kernel
theorem dX8_grinds_0 : decode cX8_grinds 0 = .ok (.iconst 0, 1) := by decide +kernel
theorem dX8_grinds_1 : decode cX8_grinds 1 = .ok (.istore_n 2, 1) := by decide +kernel
theorem dX8_grinds_2 : decode cX8_grinds 2 = .ok (.iload_n 2, 1) := by decide +kernel
theorem dX8_grinds_3 : decode cX8_grinds 3 = .ok (.iconst 4, 1) := by decide +kernel
theorem dX8_grinds_4 : decode cX8_grinds 4 = .ok (.if_icmp .ge 35, 3) := by decide +kernel
theorem dX8_grinds_7 : decode cX8_grinds 7 = .ok (.iconst 0, 1) := by decide +kernel
theorem dX8_grinds_8 : decode cX8_grinds 8 = .ok (.istore_n 3, 1) := by decide +kernel
theorem dX8_grinds_9 : decode cX8_grinds 9 = .ok (.iload_n 3, 1) := by decide +kernel
theorem dX8_grinds_10 : decode cX8_grinds 10 = .ok (.aload_n 0, 1) := by decide +kernel
theorem dX8_grinds_11 : decode cX8_grinds 11 = .ok (.getfield 7, 3) := by decide +kernel
theorem dX8_grinds_14 : decode cX8_grinds 14 = .ok (.iconst 0, 1) := by decide +kernel
theorem dX8_grinds_15 : decode cX8_grinds 15 = .ok (.iload_n 2, 1) := by decide +kernel
theorem dX8_grinds_16 : decode cX8_grinds 16 = .ok (.iadd, 1) := by decide +kernel
theorem dX8_grinds_17 : decode cX8_grinds 17 = .ok (.iaload, 1) := by decide +kernel
theorem dX8_grinds_18 : decode cX8_grinds 18 = .ok (.if_icmp .ge 15, 3) := by decide +kernel
theorem dX8_grinds_21 : decode cX8_grinds 21 = .ok (.aload_n 0, 1) := by decide +kernel
theorem dX8_grinds_22 : decode cX8_grinds 22 = .ok (.iload_n 1, 1) := by decide +kernel
theorem dX8_grinds_23 : decode cX8_grinds 23 = .ok (.iload_n 2, 1) := by decide +kernel
theorem dX8_grinds_24 : decode cX8_grinds 24 = .ok (.invokevirtual 198, 3) := by decide +kernel
theorem dX8_grinds_27 : decode cX8_grinds 27 = .ok (.iinc 3 1, 3) := by decide +kernel
theorem dX8_grinds_30 : decode cX8_grinds 30 = .ok (.goto (-21), 3) := by decide +kernel
theorem dX8_grinds_33 : decode cX8_grinds 33 = .ok (.iinc 2 1, 3) := by decide +kernel
theorem dX8_grinds_36 : decode cX8_grinds 36 = .ok (.goto (-34), 3) := by decide +kernel
theorem dX8_grinds_39 : decode cX8_grinds 39 = .ok (.aload_n 0, 1) := by decide +kernel
theorem dX8_grinds_40 : decode cX8_grinds 40 = .ok (.iload_n 1, 1) := by decide +kernel
theorem dX8_grinds_41 : decode cX8_grinds 41 = .ok (.bipush 8, 2) := by decide +kernel
theorem dX8_grinds_43 : decode cX8_grinds 43 = .ok (.sipush 9999, 3) := by decide +kernel
theorem dX8_grinds_46 : decode cX8_grinds 46 = .ok (.aload_n 0, 1) := by decide +kernel
theorem dX8_grinds_47 : decode cX8_grinds 47 = .ok (.iload_n 1, 1) := by decide +kernel
theorem dX8_grinds_48 : decode cX8_grinds 48 = .ok (.bipush 8, 2) := by decide +kernel
theorem dX8_grinds_50 : decode cX8_grinds 50 = .ok (.invokevirtual 163, 3) := by decide +kernel
theorem dX8_grinds_53 : decode cX8_grinds 53 = .ok (.iconst 1, 1) := by decide +kernel
theorem dX8_grinds_54 : decode cX8_grinds 54 = .ok (.iadd, 1) := by decide +kernel
theorem dX8_grinds_55 : decode cX8_grinds 55 = .ok (.invokestatic 172, 3) := by decide +kernel
theorem dX8_grinds_58 : decode cX8_grinds 58 = .ok (.invokevirtual 153, 3) := by decide +kernel
theorem dX8_grinds_61 : decode cX8_grinds 61 = .ok (.aload_n 0, 1) := by decide +kernel
theorem dX8_grinds_62 : decode cX8_grinds 62 = .ok (.getfield 7, 3) := by decide +kernel
theorem dX8_grinds_65 : decode cX8_grinds 65 = .ok (.bipush 7, 2) := by decide +kernel
theorem dX8_grinds_67 : decode cX8_grinds 67 = .ok (.ldc 208, 2) := by decide +kernel
theorem dX8_grinds_69 : decode cX8_grinds 69 = .ok (.aload_n 0, 1) := by decide +kernel
theorem dX8_grinds_70 : decode cX8_grinds 70 = .ok (.getfield 7, 3) := by decide +kernel
theorem dX8_grinds_73 : decode cX8_grinds 73 = .ok (.bipush 7, 2) := by decide +kernel
theorem dX8_grinds_75 : decode cX8_grinds 75 = .ok (.iaload, 1) := by decide +kernel
theorem dX8_grinds_76 : decode cX8_grinds 76 = .ok (.aload_n 0, 1) := by decide +kernel
theorem dX8_grinds_77 : decode cX8_grinds 77 = .ok (.getfield 7, 3) := by decide +kernel
theorem dX8_grinds_80 : decode cX8_grinds 80 = .ok (.iconst 5, 1) := by decide +kernel
theorem dX8_grinds_81 : decode cX8_grinds 81 = .ok (.iaload, 1) := by decide +kernel
theorem dX8_grinds_82 : decode cX8_grinds 82 = .ok (.iadd, 1) := by decide +kernel
theorem dX8_grinds_83 : decode cX8_grinds 83 = .ok (.invokestatic 172, 3) := by decide +kernel
theorem dX8_grinds_86 : decode cX8_grinds 86 = .ok (.iastore, 1) := by decide +kernel
theorem dX8_grinds_87 : decode cX8_grinds 87 = .ok (.return_, 1) := by decide +kernel
theorem dX8_visits_0 : decode cX8_visits 0 = .ok (.iconst 0, 1) := by decide +kernel
theorem dX8_visits_1 : decode cX8_visits 1 = .ok (.istore_n 1, 1) := by decide +kernel
theorem dX8_visits_2 : decode cX8_visits 2 = .ok (.iload_n 1, 1) := by decide +kernel
theorem dX8_visits_3 : decode cX8_visits 3 = .ok (.bipush 8, 2) := by decide +kernel
theorem dX8_visits_5 : decode cX8_visits 5 = .ok (.if_icmp .ge 16, 3) := by decide +kernel
theorem dX8_visits_8 : decode cX8_visits 8 = .ok (.aload_n 0, 1) := by decide +kernel
theorem dX8_visits_9 : decode cX8_visits 9 = .ok (.getfield 31, 3) := by decide +kernel
theorem dX8_visits_12 : decode cX8_visits 12 = .ok (.iload_n 1, 1) := by decide +kernel
theorem dX8_visits_13 : decode cX8_visits 13 = .ok (.iconst 0, 1) := by decide +kernel
theorem dX8_visits_14 : decode cX8_visits 14 = .ok (.iastore, 1) := by decide +kernel
theorem dX8_visits_15 : decode cX8_visits 15 = .ok (.iinc 1 1, 3) := by decide +kernel
theorem dX8_visits_18 : decode cX8_visits 18 = .ok (.goto (-16), 3) := by decide +kernel
theorem dX8_visits_21 : decode cX8_visits 21 = .ok (.iconst 0, 1) := by decide +kernel
theorem dX8_visits_22 : decode cX8_visits 22 = .ok (.istore_n 1, 1) := by decide +kernel
theorem dX8_visits_23 : decode cX8_visits 23 = .ok (.iconst 0, 1) := by decide +kernel
theorem dX8_visits_24 : decode cX8_visits 24 = .ok (.istore_n 2, 1) := by decide +kernel
theorem dX8_visits_25 : decode cX8_visits 25 = .ok (.iload_n 2, 1) := by decide +kernel
theorem dX8_visits_26 : decode cX8_visits 26 = .ok (.aload_n 0, 1) := by decide +kernel
theorem dX8_visits_27 : decode cX8_visits 27 = .ok (.getfield 7, 3) := by decide +kernel
theorem dX8_visits_30 : decode cX8_visits 30 = .ok (.bipush 9, 2) := by decide +kernel
theorem dX8_visits_32 : decode cX8_visits 32 = .ok (.iaload, 1) := by decide +kernel
theorem dX8_visits_33 : decode cX8_visits 33 = .ok (.if_icmp .ge 90, 3) := by decide +kernel
theorem dX8_visits_36 : decode cX8_visits 36 = .ok (.aload_n 0, 1) := by decide +kernel
theorem dX8_visits_37 : decode cX8_visits 37 = .ok (.iload_n 2, 1) := by decide +kernel
theorem dX8_visits_38 : decode cX8_visits 38 = .ok (.iconst 2, 1) := by decide +kernel
theorem dX8_visits_39 : decode cX8_visits 39 = .ok (.invokevirtual 163, 3) := by decide +kernel
theorem dX8_visits_42 : decode cX8_visits 42 = .ok (.istore_n 3, 1) := by decide +kernel
theorem dX8_visits_43 : decode cX8_visits 43 = .ok (.aload_n 0, 1) := by decide +kernel
theorem dX8_visits_44 : decode cX8_visits 44 = .ok (.getfield 31, 3) := by decide +kernel
theorem dX8_visits_47 : decode cX8_visits 47 = .ok (.iload_n 3, 1) := by decide +kernel
theorem dX8_visits_48 : decode cX8_visits 48 = .ok (.iaload, 1) := by decide +kernel
theorem dX8_visits_49 : decode cX8_visits 49 = .ok (.aload_n 0, 1) := by decide +kernel
theorem dX8_visits_50 : decode cX8_visits 50 = .ok (.getfield 31, 3) := by decide +kernel
theorem dX8_visits_53 : decode cX8_visits 53 = .ok (.iload_n 3, 1) := by decide +kernel
theorem dX8_visits_54 : decode cX8_visits 54 = .ok (.iconst 2, 1) := by decide +kernel
theorem dX8_visits_55 : decode cX8_visits 55 = .ok (.iadd, 1) := by decide +kernel
theorem dX8_visits_56 : decode cX8_visits 56 = .ok (.iaload, 1) := by decide +kernel
theorem dX8_visits_57 : decode cX8_visits 57 = .ok (.iadd, 1) := by decide +kernel
theorem dX8_visits_58 : decode cX8_visits 58 = .ok (.istore 4, 2) := by decide +kernel
theorem dX8_visits_60 : decode cX8_visits 60 = .ok (.aload_n 0, 1) := by decide +kernel
theorem dX8_visits_61 : decode cX8_visits 61 = .ok (.iconst 1, 1) := by decide +kernel
theorem dX8_visits_62 : decode cX8_visits 62 = .ok (.bipush 99, 2) := by decide +kernel
theorem dX8_visits_64 : decode cX8_visits 64 = .ok (.aload_n 0, 1) := by decide +kernel
theorem dX8_visits_65 : decode cX8_visits 65 = .ok (.iload_n 2, 1) := by decide +kernel
theorem dX8_visits_66 : decode cX8_visits 66 = .ok (.iconst 3, 1) := by decide +kernel
theorem dX8_visits_67 : decode cX8_visits 67 = .ok (.invokevirtual 163, 3) := by decide +kernel
theorem dX8_visits_70 : decode cX8_visits 70 = .ok (.isub, 1) := by decide +kernel
theorem dX8_visits_71 : decode cX8_visits 71 = .ok (.iload 4, 2) := by decide +kernel
theorem dX8_visits_73 : decode cX8_visits 73 = .ok (.aload_n 0, 1) := by decide +kernel
theorem dX8_visits_74 : decode cX8_visits 74 = .ok (.getfield 7, 3) := by decide +kernel
theorem dX8_visits_77 : decode cX8_visits 77 = .ok (.iconst 5, 1) := by decide +kernel
theorem dX8_visits_78 : decode cX8_visits 78 = .ok (.iaload, 1) := by decide +kernel
theorem dX8_visits_79 : decode cX8_visits 79 = .ok (.iload_n 3, 1) := by decide +kernel
theorem dX8_visits_80 : decode cX8_visits 80 = .ok (.invokevirtual 143, 3) := by decide +kernel
theorem dX8_visits_83 : decode cX8_visits 83 = .ok (.ifCond .le 34, 3) := by decide +kernel
theorem dX8_visits_86 : decode cX8_visits 86 = .ok (.aload_n 0, 1) := by decide +kernel
theorem dX8_visits_87 : decode cX8_visits 87 = .ok (.iload_n 2, 1) := by decide +kernel
theorem dX8_visits_88 : decode cX8_visits 88 = .ok (.iconst 0, 1) := by decide +kernel
theorem dX8_visits_89 : decode cX8_visits 89 = .ok (.invokevirtual 163, 3) := by decide +kernel
theorem dX8_visits_92 : decode cX8_visits 92 = .ok (.bipush 6, 2) := by decide +kernel
theorem dX8_visits_94 : decode cX8_visits 94 = .ok (.if_icmp .eq 23, 3) := by decide +kernel
theorem dX8_visits_97 : decode cX8_visits 97 = .ok (.aload_n 0, 1) := by decide +kernel
theorem dX8_visits_98 : decode cX8_visits 98 = .ok (.iload_n 2, 1) := by decide +kernel
theorem dX8_visits_99 : decode cX8_visits 99 = .ok (.invokevirtual 209, 3) := by decide +kernel
theorem dX8_visits_102 : decode cX8_visits 102 = .ok (.aload_n 0, 1) := by decide +kernel
theorem dX8_visits_103 : decode cX8_visits 103 = .ok (.getfield 31, 3) := by decide +kernel
theorem dX8_visits_106 : decode cX8_visits 106 = .ok (.iload_n 3, 1) := by decide +kernel
theorem dX8_visits_107 : decode cX8_visits 107 = .ok (.iconst 1, 1) := by decide +kernel
theorem dX8_visits_108 : decode cX8_visits 108 = .ok (.iadd, 1) := by decide +kernel
theorem dX8_visits_109 : decode cX8_visits 109 = .ok (.dup2, 1) := by decide +kernel
theorem dX8_visits_110 : decode cX8_visits 110 = .ok (.iaload, 1) := by decide +kernel
theorem dX8_visits_111 : decode cX8_visits 111 = .ok (.iconst 1, 1) := by decide +kernel
theorem dX8_visits_112 : decode cX8_visits 112 = .ok (.iadd, 1) := by decide +kernel
theorem dX8_visits_113 : decode cX8_visits 113 = .ok (.iastore, 1) := by decide +kernel
theorem dX8_visits_114 : decode cX8_visits 114 = .ok (.iinc 1 1, 3) := by decide +kernel
theorem dX8_visits_117 : decode cX8_visits 117 = .ok (.iinc 2 1, 3) := by decide +kernel
theorem dX8_visits_120 : decode cX8_visits 120 = .ok (.goto (-95), 3) := by decide +kernel
theorem dX8_visits_123 : decode cX8_visits 123 = .ok (.iload_n 1, 1) := by decide +kernel
theorem dX8_visits_124 : decode cX8_visits 124 = .ok (.ireturn, 1) := by decide +kernel
theorem dX8_visit_0 : decode cX8_visit 0 = .ok (.aload_n 0, 1) := by decide +kernel
theorem dX8_visit_1 : decode cX8_visit 1 = .ok (.invokevirtual 212, 3) := by decide +kernel
theorem dX8_visit_4 : decode cX8_visit 4 = .ok (.ireturn, 1) := by decide +kernel
theorem dX8_drawn_0 : decode cX8_drawn 0 = .ok (.aload_n 0, 1) := by decide +kernel
theorem dX8_drawn_1 : decode cX8_drawn 1 = .ok (.getfield 7, 3) := by decide +kernel
theorem dX8_drawn_4 : decode cX8_drawn 4 = .ok (.bipush 10, 2) := by decide +kernel
theorem dX8_drawn_6 : decode cX8_drawn 6 = .ok (.aload_n 0, 1) := by decide +kernel
theorem dX8_drawn_7 : decode cX8_drawn 7 = .ok (.getfield 7, 3) := by decide +kernel
theorem dX8_drawn_10 : decode cX8_drawn 10 = .ok (.bipush 10, 2) := by decide +kernel
theorem dX8_drawn_12 : decode cX8_drawn 12 = .ok (.iaload, 1) := by decide +kernel
theorem dX8_drawn_13 : decode cX8_drawn 13 = .ok (.ldc 215, 2) := by decide +kernel
theorem dX8_drawn_15 : decode cX8_drawn 15 = .ok (.imul, 1) := by decide +kernel
theorem dX8_drawn_16 : decode cX8_drawn 16 = .ok (.sipush 12345, 3) := by decide +kernel
theorem dX8_drawn_19 : decode cX8_drawn 19 = .ok (.iadd, 1) := by decide +kernel
theorem dX8_drawn_20 : decode cX8_drawn 20 = .ok (.iastore, 1) := by decide +kernel
theorem dX8_drawn_21 : decode cX8_drawn 21 = .ok (.aload_n 0, 1) := by decide +kernel
theorem dX8_drawn_22 : decode cX8_drawn 22 = .ok (.getfield 7, 3) := by decide +kernel
theorem dX8_drawn_25 : decode cX8_drawn 25 = .ok (.bipush 10, 2) := by decide +kernel
theorem dX8_drawn_27 : decode cX8_drawn 27 = .ok (.iaload, 1) := by decide +kernel
theorem dX8_drawn_28 : decode cX8_drawn 28 = .ok (.bipush 8, 2) := by decide +kernel
theorem dX8_drawn_30 : decode cX8_drawn 30 = .ok (.iushr, 1) := by decide +kernel
theorem dX8_drawn_31 : decode cX8_drawn 31 = .ok (.ireturn, 1) := by decide +kernel
theorem dX8_goesBy_0 : decode cX8_goesBy 0 = .ok (.aload_n 0, 1) := by decide +kernel
theorem dX8_goesBy_1 : decode cX8_goesBy 1 = .ok (.getfield 7, 3) := by decide +kernel
theorem dX8_goesBy_4 : decode cX8_goesBy 4 = .ok (.bipush 8, 2) := by decide +kernel
theorem dX8_goesBy_6 : decode cX8_goesBy 6 = .ok (.iaload, 1) := by decide +kernel
theorem dX8_goesBy_7 : decode cX8_goesBy 7 = .ok (.bipush 7, 2) := by decide +kernel
theorem dX8_goesBy_9 : decode cX8_goesBy 9 = .ok (.aload_n 0, 1) := by decide +kernel
theorem dX8_goesBy_10 : decode cX8_goesBy 10 = .ok (.getfield 7, 3) := by decide +kernel
theorem dX8_goesBy_13 : decode cX8_goesBy 13 = .ok (.bipush 6, 2) := by decide +kernel
theorem dX8_goesBy_15 : decode cX8_goesBy 15 = .ok (.iaload, 1) := by decide +kernel
theorem dX8_goesBy_16 : decode cX8_goesBy 16 = .ok (.imul, 1) := by decide +kernel
theorem dX8_goesBy_17 : decode cX8_goesBy 17 = .ok (.irem, 1) := by decide +kernel
theorem dX8_goesBy_18 : decode cX8_goesBy 18 = .ok (.ifCond .ne 8, 3) := by decide +kernel
theorem dX8_goesBy_21 : decode cX8_goesBy 21 = .ok (.aload_n 0, 1) := by decide +kernel
theorem dX8_goesBy_22 : decode cX8_goesBy 22 = .ok (.invokevirtual 212, 3) := by decide +kernel
theorem dX8_goesBy_25 : decode cX8_goesBy 25 = .ok (.istore_n 2, 1) := by decide +kernel
theorem dX8_goesBy_26 : decode cX8_goesBy 26 = .ok (.iconst 0, 1) := by decide +kernel
theorem dX8_goesBy_27 : decode cX8_goesBy 27 = .ok (.istore_n 2, 1) := by decide +kernel
theorem dX8_goesBy_28 : decode cX8_goesBy 28 = .ok (.iload_n 2, 1) := by decide +kernel
theorem dX8_goesBy_29 : decode cX8_goesBy 29 = .ok (.aload_n 0, 1) := by decide +kernel
theorem dX8_goesBy_30 : decode cX8_goesBy 30 = .ok (.getfield 7, 3) := by decide +kernel
theorem dX8_goesBy_33 : decode cX8_goesBy 33 = .ok (.bipush 9, 2) := by decide +kernel
theorem dX8_goesBy_35 : decode cX8_goesBy 35 = .ok (.iaload, 1) := by decide +kernel
theorem dX8_goesBy_36 : decode cX8_goesBy 36 = .ok (.if_icmp .ge 71, 3) := by decide +kernel
theorem dX8_goesBy_39 : decode cX8_goesBy 39 = .ok (.aload_n 0, 1) := by decide +kernel
theorem dX8_goesBy_40 : decode cX8_goesBy 40 = .ok (.iload_n 2, 1) := by decide +kernel
theorem dX8_goesBy_41 : decode cX8_goesBy 41 = .ok (.bipush 6, 2) := by decide +kernel
theorem dX8_goesBy_43 : decode cX8_goesBy 43 = .ok (.invokevirtual 163, 3) := by decide +kernel
theorem dX8_goesBy_46 : decode cX8_goesBy 46 = .ok (.istore_n 3, 1) := by decide +kernel
theorem dX8_goesBy_47 : decode cX8_goesBy 47 = .ok (.iload_n 1, 1) := by decide +kernel
theorem dX8_goesBy_48 : decode cX8_goesBy 48 = .ok (.ifCond .eq 18, 3) := by decide +kernel
theorem dX8_goesBy_51 : decode cX8_goesBy 51 = .ok (.aload_n 0, 1) := by decide +kernel
theorem dX8_goesBy_52 : decode cX8_goesBy 52 = .ok (.invokevirtual 216, 3) := by decide +kernel
theorem dX8_goesBy_55 : decode cX8_goesBy 55 = .ok (.iconst 4, 1) := by decide +kernel
theorem dX8_goesBy_56 : decode cX8_goesBy 56 = .ok (.irem, 1) := by decide +kernel
theorem dX8_goesBy_57 : decode cX8_goesBy 57 = .ok (.ifCond .ne 9, 3) := by decide +kernel
theorem dX8_goesBy_60 : decode cX8_goesBy 60 = .ok (.iconst 2, 1) := by decide +kernel
theorem dX8_goesBy_61 : decode cX8_goesBy 61 = .ok (.iload_n 3, 1) := by decide +kernel
theorem dX8_goesBy_62 : decode cX8_goesBy 62 = .ok (.imul, 1) := by decide +kernel
theorem dX8_goesBy_63 : decode cX8_goesBy 63 = .ok (.goto 4, 3) := by decide +kernel
theorem dX8_goesBy_66 : decode cX8_goesBy 66 = .ok (.iload_n 3, 1) := by decide +kernel
theorem dX8_goesBy_67 : decode cX8_goesBy 67 = .ok (.istore_n 3, 1) := by decide +kernel
theorem dX8_goesBy_68 : decode cX8_goesBy 68 = .ok (.aload_n 0, 1) := by decide +kernel
theorem dX8_goesBy_69 : decode cX8_goesBy 69 = .ok (.iload_n 2, 1) := by decide +kernel
theorem dX8_goesBy_70 : decode cX8_goesBy 70 = .ok (.iconst 3, 1) := by decide +kernel
theorem dX8_goesBy_71 : decode cX8_goesBy 71 = .ok (.aload_n 0, 1) := by decide +kernel
theorem dX8_goesBy_72 : decode cX8_goesBy 72 = .ok (.iload_n 2, 1) := by decide +kernel
theorem dX8_goesBy_73 : decode cX8_goesBy 73 = .ok (.iconst 3, 1) := by decide +kernel
theorem dX8_goesBy_74 : decode cX8_goesBy 74 = .ok (.invokevirtual 163, 3) := by decide +kernel
theorem dX8_goesBy_77 : decode cX8_goesBy 77 = .ok (.iload_n 3, 1) := by decide +kernel
theorem dX8_goesBy_78 : decode cX8_goesBy 78 = .ok (.aload_n 0, 1) := by decide +kernel
theorem dX8_goesBy_79 : decode cX8_goesBy 79 = .ok (.iload_n 2, 1) := by decide +kernel
theorem dX8_goesBy_80 : decode cX8_goesBy 80 = .ok (.invokevirtual 175, 3) := by decide +kernel
theorem dX8_goesBy_83 : decode cX8_goesBy 83 = .ok (.imul, 1) := by decide +kernel
theorem dX8_goesBy_84 : decode cX8_goesBy 84 = .ok (.isub, 1) := by decide +kernel
theorem dX8_goesBy_85 : decode cX8_goesBy 85 = .ok (.iconst 0, 1) := by decide +kernel
theorem dX8_goesBy_86 : decode cX8_goesBy 86 = .ok (.bipush 99, 2) := by decide +kernel
theorem dX8_goesBy_88 : decode cX8_goesBy 88 = .ok (.invokestatic 140, 3) := by decide +kernel
theorem dX8_goesBy_91 : decode cX8_goesBy 91 = .ok (.invokevirtual 153, 3) := by decide +kernel
theorem dX8_goesBy_94 : decode cX8_goesBy 94 = .ok (.aload_n 0, 1) := by decide +kernel
theorem dX8_goesBy_95 : decode cX8_goesBy 95 = .ok (.iload_n 2, 1) := by decide +kernel
theorem dX8_goesBy_96 : decode cX8_goesBy 96 = .ok (.iconst 5, 1) := by decide +kernel
theorem dX8_goesBy_97 : decode cX8_goesBy 97 = .ok (.iconst 0, 1) := by decide +kernel
theorem dX8_goesBy_98 : decode cX8_goesBy 98 = .ok (.invokevirtual 153, 3) := by decide +kernel
theorem dX8_goesBy_101 : decode cX8_goesBy 101 = .ok (.iinc 2 1, 3) := by decide +kernel
theorem dX8_goesBy_104 : decode cX8_goesBy 104 = .ok (.goto (-76), 3) := by decide +kernel
theorem dX8_goesBy_107 : decode cX8_goesBy 107 = .ok (.aload_n 0, 1) := by decide +kernel
theorem dX8_goesBy_108 : decode cX8_goesBy 108 = .ok (.getfield 7, 3) := by decide +kernel
theorem dX8_goesBy_111 : decode cX8_goesBy 111 = .ok (.bipush 8, 2) := by decide +kernel
theorem dX8_goesBy_113 : decode cX8_goesBy 113 = .ok (.dup2, 1) := by decide +kernel
theorem dX8_goesBy_114 : decode cX8_goesBy 114 = .ok (.iaload, 1) := by decide +kernel
theorem dX8_goesBy_115 : decode cX8_goesBy 115 = .ok (.iconst 1, 1) := by decide +kernel
theorem dX8_goesBy_116 : decode cX8_goesBy 116 = .ok (.iadd, 1) := by decide +kernel
theorem dX8_goesBy_117 : decode cX8_goesBy 117 = .ok (.iastore, 1) := by decide +kernel
theorem dX8_goesBy_118 : decode cX8_goesBy 118 = .ok (.return_, 1) := by decide +kernel
theorem dX8_goesOn_0 : decode cX8_goesOn 0 = .ok (.iconst 0, 1) := by decide +kernel
theorem dX8_goesOn_1 : decode cX8_goesOn 1 = .ok (.istore_n 2, 1) := by decide +kernel
theorem dX8_goesOn_2 : decode cX8_goesOn 2 = .ok (.iload_n 2, 1) := by decide +kernel
theorem dX8_goesOn_3 : decode cX8_goesOn 3 = .ok (.iload_n 1, 1) := by decide +kernel
theorem dX8_goesOn_4 : decode cX8_goesOn 4 = .ok (.if_icmp .ge 14, 3) := by decide +kernel
theorem dX8_goesOn_7 : decode cX8_goesOn 7 = .ok (.aload_n 0, 1) := by decide +kernel
theorem dX8_goesOn_8 : decode cX8_goesOn 8 = .ok (.iconst 0, 1) := by decide +kernel
theorem dX8_goesOn_9 : decode cX8_goesOn 9 = .ok (.invokevirtual 219, 3) := by decide +kernel
theorem dX8_goesOn_12 : decode cX8_goesOn 12 = .ok (.iinc 2 1, 3) := by decide +kernel
theorem dX8_goesOn_15 : decode cX8_goesOn 15 = .ok (.goto (-13), 3) := by decide +kernel
theorem dX8_goesOn_18 : decode cX8_goesOn 18 = .ok (.return_, 1) := by decide +kernel
theorem dX8_goes_0 : decode cX8_goes 0 = .ok (.iload_n 1, 1) := by decide +kernel
theorem dX8_goes_1 : decode cX8_goes 1 = .ok (.i2l, 1) := by decide +kernel
theorem dX8_goes_2 : decode cX8_goes 2 = .ok (.lconst 1, 1) := by decide +kernel
theorem dX8_goes_3 : decode cX8_goes 3 = .ok (.ldc2_w 223, 3) := by decide +kernel
theorem dX8_goes_6 : decode cX8_goes 6 = .ok (.invokestatic 50, 3) := by decide +kernel
theorem dX8_goes_9 : decode cX8_goes 9 = .ok (.ifCond .ne 9, 3) := by decide +kernel
theorem dX8_goes_12 : decode cX8_goes 12 = .ok (.aload_n 0, 1) := by decide +kernel
theorem dX8_goes_13 : decode cX8_goes 13 = .ok (.iconst 1, 1) := by decide +kernel
theorem dX8_goes_14 : decode cX8_goes 14 = .ok (.invokevirtual 127, 3) := by decide +kernel
theorem dX8_goes_17 : decode cX8_goes 17 = .ok (.ireturn, 1) := by decide +kernel
theorem dX8_goes_18 : decode cX8_goes 18 = .ok (.aload_n 0, 1) := by decide +kernel
theorem dX8_goes_19 : decode cX8_goes 19 = .ok (.getfield 7, 3) := by decide +kernel
theorem dX8_goes_22 : decode cX8_goes 22 = .ok (.bipush 8, 2) := by decide +kernel
theorem dX8_goes_24 : decode cX8_goes 24 = .ok (.iaload, 1) := by decide +kernel
theorem dX8_goes_25 : decode cX8_goes 25 = .ok (.iload_n 1, 1) := by decide +kernel
theorem dX8_goes_26 : decode cX8_goes 26 = .ok (.iadd, 1) := by decide +kernel
theorem dX8_goes_27 : decode cX8_goes 27 = .ok (.sipush 9999, 3) := by decide +kernel
theorem dX8_goes_30 : decode cX8_goes 30 = .ok (.if_icmp .le 9, 3) := by decide +kernel
theorem dX8_goes_33 : decode cX8_goes 33 = .ok (.aload_n 0, 1) := by decide +kernel
theorem dX8_goes_34 : decode cX8_goes 34 = .ok (.iconst 3, 1) := by decide +kernel
theorem dX8_goes_35 : decode cX8_goes 35 = .ok (.invokevirtual 127, 3) := by decide +kernel
theorem dX8_goes_38 : decode cX8_goes 38 = .ok (.ireturn, 1) := by decide +kernel
theorem dX8_goes_39 : decode cX8_goes 39 = .ok (.iconst 0, 1) := by decide +kernel
theorem dX8_goes_40 : decode cX8_goes 40 = .ok (.istore_n 3, 1) := by decide +kernel
theorem dX8_goes_41 : decode cX8_goes 41 = .ok (.iload_n 3, 1) := by decide +kernel
theorem dX8_goes_42 : decode cX8_goes 42 = .ok (.iload_n 1, 1) := by decide +kernel
theorem dX8_goes_43 : decode cX8_goes 43 = .ok (.if_icmp .ge 14, 3) := by decide +kernel
theorem dX8_goes_46 : decode cX8_goes 46 = .ok (.aload_n 0, 1) := by decide +kernel
theorem dX8_goes_47 : decode cX8_goes 47 = .ok (.iload_n 2, 1) := by decide +kernel
theorem dX8_goes_48 : decode cX8_goes 48 = .ok (.invokevirtual 219, 3) := by decide +kernel
theorem dX8_goes_51 : decode cX8_goes 51 = .ok (.iinc 3 1, 3) := by decide +kernel
theorem dX8_goes_54 : decode cX8_goes 54 = .ok (.goto (-13), 3) := by decide +kernel
theorem dX8_goes_57 : decode cX8_goes 57 = .ok (.aload_n 0, 1) := by decide +kernel
theorem dX8_goes_58 : decode cX8_goes 58 = .ok (.getfield 7, 3) := by decide +kernel
theorem dX8_goes_61 : decode cX8_goes 61 = .ok (.bipush 7, 2) := by decide +kernel
theorem dX8_goes_63 : decode cX8_goes 63 = .ok (.iaload, 1) := by decide +kernel
theorem dX8_goes_64 : decode cX8_goes 64 = .ok (.ireturn, 1) := by decide +kernel
theorem dX8_days_0 : decode cX8_days 0 = .ok (.aload_n 0, 1) := by decide +kernel
theorem dX8_days_1 : decode cX8_days 1 = .ok (.iload_n 1, 1) := by decide +kernel
theorem dX8_days_2 : decode cX8_days 2 = .ok (.iconst 0, 1) := by decide +kernel
theorem dX8_days_3 : decode cX8_days 3 = .ok (.invokevirtual 225, 3) := by decide +kernel
theorem dX8_days_6 : decode cX8_days 6 = .ok (.ireturn, 1) := by decide +kernel
theorem dX8_loose_0 : decode cX8_loose 0 = .ok (.aload_n 0, 1) := by decide +kernel
theorem dX8_loose_1 : decode cX8_loose 1 = .ok (.iload_n 1, 1) := by decide +kernel
theorem dX8_loose_2 : decode cX8_loose 2 = .ok (.iconst 1, 1) := by decide +kernel
theorem dX8_loose_3 : decode cX8_loose 3 = .ok (.invokevirtual 225, 3) := by decide +kernel
theorem dX8_loose_6 : decode cX8_loose 6 = .ok (.ireturn, 1) := by decide +kernel
theorem dX8_then_0 : decode cX8_then 0 = .ok (.iload_n 1, 1) := by decide +kernel
theorem dX8_then_1 : decode cX8_then 1 = .ok (.i2l, 1) := by decide +kernel
theorem dX8_then_2 : decode cX8_then 2 = .ok (.lconst 0, 1) := by decide +kernel
theorem dX8_then_3 : decode cX8_then 3 = .ok (.ldc2_w 223, 3) := by decide +kernel
theorem dX8_then_6 : decode cX8_then 6 = .ok (.invokestatic 50, 3) := by decide +kernel
theorem dX8_then_9 : decode cX8_then 9 = .ok (.ifCond .eq 23, 3) := by decide +kernel
theorem dX8_then_12 : decode cX8_then 12 = .ok (.aload_n 0, 1) := by decide +kernel
theorem dX8_then_13 : decode cX8_then 13 = .ok (.iload_n 2, 1) := by decide +kernel
theorem dX8_then_14 : decode cX8_then 14 = .ok (.invokevirtual 178, 3) := by decide +kernel
theorem dX8_then_17 : decode cX8_then 17 = .ok (.ifCond .eq 15, 3) := by decide +kernel
theorem dX8_then_20 : decode cX8_then 20 = .ok (.iload_n 3, 1) := by decide +kernel
theorem dX8_then_21 : decode cX8_then 21 = .ok (.i2l, 1) := by decide +kernel
theorem dX8_then_22 : decode cX8_then 22 = .ok (.lconst 0, 1) := by decide +kernel
theorem dX8_then_23 : decode cX8_then 23 = .ok (.ldc2_w 181, 3) := by decide +kernel
theorem dX8_then_26 : decode cX8_then 26 = .ok (.invokestatic 50, 3) := by decide +kernel
theorem dX8_then_29 : decode cX8_then 29 = .ok (.ifCond .ne 9, 3) := by decide +kernel
theorem dX8_then_32 : decode cX8_then 32 = .ok (.aload_n 0, 1) := by decide +kernel
theorem dX8_then_33 : decode cX8_then 33 = .ok (.iconst 1, 1) := by decide +kernel
theorem dX8_then_34 : decode cX8_then 34 = .ok (.invokevirtual 127, 3) := by decide +kernel
theorem dX8_then_37 : decode cX8_then 37 = .ok (.ireturn, 1) := by decide +kernel
theorem dX8_then_38 : decode cX8_then 38 = .ok (.aload_n 0, 1) := by decide +kernel
theorem dX8_then_39 : decode cX8_then 39 = .ok (.getfield 7, 3) := by decide +kernel
theorem dX8_then_42 : decode cX8_then 42 = .ok (.aload_n 0, 1) := by decide +kernel
theorem dX8_then_43 : decode cX8_then 43 = .ok (.getfield 13, 3) := by decide +kernel
theorem dX8_then_46 : decode cX8_then 46 = .ok (.invokestatic 229, 3) := by decide +kernel
theorem dX8_then_49 : decode cX8_then 49 = .ok (.aload_n 0, 1) := by decide +kernel
theorem dX8_then_50 : decode cX8_then 50 = .ok (.iload_n 1, 1) := by decide +kernel
theorem dX8_then_51 : decode cX8_then 51 = .ok (.invokevirtual 233, 3) := by decide +kernel
theorem dX8_then_54 : decode cX8_then 54 = .ok (.aload_n 0, 1) := by decide +kernel
theorem dX8_then_55 : decode cX8_then 55 = .ok (.iload_n 2, 1) := by decide +kernel
theorem dX8_then_56 : decode cX8_then 56 = .ok (.iload_n 3, 1) := by decide +kernel
theorem dX8_then_57 : decode cX8_then 57 = .ok (.invokevirtual 183, 3) := by decide +kernel
theorem dX8_then_60 : decode cX8_then 60 = .ok (.istore 4, 2) := by decide +kernel
theorem dX8_then_62 : decode cX8_then 62 = .ok (.aload_n 0, 1) := by decide +kernel
theorem dX8_then_63 : decode cX8_then 63 = .ok (.getfield 13, 3) := by decide +kernel
theorem dX8_then_66 : decode cX8_then 66 = .ok (.aload_n 0, 1) := by decide +kernel
theorem dX8_then_67 : decode cX8_then 67 = .ok (.getfield 7, 3) := by decide +kernel
theorem dX8_then_70 : decode cX8_then 70 = .ok (.invokestatic 229, 3) := by decide +kernel
theorem dX8_then_73 : decode cX8_then 73 = .ok (.iload 4, 2) := by decide +kernel
theorem dX8_then_75 : decode cX8_then 75 = .ok (.ireturn, 1) := by decide +kernel
theorem dX8_purseBy_0 : decode cX8_purseBy 0 = .ok (.aload_n 0, 1) := by decide +kernel
theorem dX8_purseBy_1 : decode cX8_purseBy 1 = .ok (.getfield 7, 3) := by decide +kernel
theorem dX8_purseBy_4 : decode cX8_purseBy 4 = .ok (.aload_n 0, 1) := by decide +kernel
theorem dX8_purseBy_5 : decode cX8_purseBy 5 = .ok (.getfield 13, 3) := by decide +kernel
theorem dX8_purseBy_8 : decode cX8_purseBy 8 = .ok (.invokestatic 229, 3) := by decide +kernel
theorem dX8_purseBy_11 : decode cX8_purseBy 11 = .ok (.aload_n 0, 1) := by decide +kernel
theorem dX8_purseBy_12 : decode cX8_purseBy 12 = .ok (.getfield 7, 3) := by decide +kernel
theorem dX8_purseBy_15 : decode cX8_purseBy 15 = .ok (.iload_n 2, 1) := by decide +kernel
theorem dX8_purseBy_16 : decode cX8_purseBy 16 = .ok (.iload_n 3, 1) := by decide +kernel
theorem dX8_purseBy_17 : decode cX8_purseBy 17 = .ok (.iastore, 1) := by decide +kernel
theorem dX8_purseBy_18 : decode cX8_purseBy 18 = .ok (.aload_n 0, 1) := by decide +kernel
theorem dX8_purseBy_19 : decode cX8_purseBy 19 = .ok (.iload_n 1, 1) := by decide +kernel
theorem dX8_purseBy_20 : decode cX8_purseBy 20 = .ok (.invokevirtual 233, 3) := by decide +kernel
theorem dX8_purseBy_23 : decode cX8_purseBy 23 = .ok (.aload_n 0, 1) := by decide +kernel
theorem dX8_purseBy_24 : decode cX8_purseBy 24 = .ok (.getfield 7, 3) := by decide +kernel
theorem dX8_purseBy_27 : decode cX8_purseBy 27 = .ok (.bipush 7, 2) := by decide +kernel
theorem dX8_purseBy_29 : decode cX8_purseBy 29 = .ok (.iaload, 1) := by decide +kernel
theorem dX8_purseBy_30 : decode cX8_purseBy 30 = .ok (.istore 4, 2) := by decide +kernel
theorem dX8_purseBy_32 : decode cX8_purseBy 32 = .ok (.aload_n 0, 1) := by decide +kernel
theorem dX8_purseBy_33 : decode cX8_purseBy 33 = .ok (.getfield 13, 3) := by decide +kernel
theorem dX8_purseBy_36 : decode cX8_purseBy 36 = .ok (.aload_n 0, 1) := by decide +kernel
theorem dX8_purseBy_37 : decode cX8_purseBy 37 = .ok (.getfield 7, 3) := by decide +kernel
theorem dX8_purseBy_40 : decode cX8_purseBy 40 = .ok (.invokestatic 229, 3) := by decide +kernel
theorem dX8_purseBy_43 : decode cX8_purseBy 43 = .ok (.iload 4, 2) := by decide +kernel
theorem dX8_purseBy_45 : decode cX8_purseBy 45 = .ok (.ireturn, 1) := by decide +kernel
theorem dX8_thenPurse_0 : decode cX8_thenPurse 0 = .ok (.iload_n 1, 1) := by decide +kernel
theorem dX8_thenPurse_1 : decode cX8_thenPurse 1 = .ok (.i2l, 1) := by decide +kernel
theorem dX8_thenPurse_2 : decode cX8_thenPurse 2 = .ok (.lconst 0, 1) := by decide +kernel
theorem dX8_thenPurse_3 : decode cX8_thenPurse 3 = .ok (.ldc2_w 223, 3) := by decide +kernel
theorem dX8_thenPurse_6 : decode cX8_thenPurse 6 = .ok (.invokestatic 50, 3) := by decide +kernel
theorem dX8_thenPurse_9 : decode cX8_thenPurse 9 = .ok (.ifCond .eq 20, 3) := by decide +kernel
theorem dX8_thenPurse_12 : decode cX8_thenPurse 12 = .ok (.aload_n 0, 1) := by decide +kernel
theorem dX8_thenPurse_13 : decode cX8_thenPurse 13 = .ok (.iload_n 1, 1) := by decide +kernel
theorem dX8_thenPurse_14 : decode cX8_thenPurse 14 = .ok (.bipush 6, 2) := by decide +kernel
theorem dX8_thenPurse_16 : decode cX8_thenPurse 16 = .ok (.aload_n 0, 1) := by decide +kernel
theorem dX8_thenPurse_17 : decode cX8_thenPurse 17 = .ok (.getfield 7, 3) := by decide +kernel
theorem dX8_thenPurse_20 : decode cX8_thenPurse 20 = .ok (.bipush 6, 2) := by decide +kernel
theorem dX8_thenPurse_22 : decode cX8_thenPurse 22 = .ok (.iaload, 1) := by decide +kernel
theorem dX8_thenPurse_23 : decode cX8_thenPurse 23 = .ok (.invokevirtual 236, 3) := by decide +kernel
theorem dX8_thenPurse_26 : decode cX8_thenPurse 26 = .ok (.goto 8, 3) := by decide +kernel
theorem dX8_thenPurse_29 : decode cX8_thenPurse 29 = .ok (.aload_n 0, 1) := by decide +kernel
theorem dX8_thenPurse_30 : decode cX8_thenPurse 30 = .ok (.iconst 1, 1) := by decide +kernel
theorem dX8_thenPurse_31 : decode cX8_thenPurse 31 = .ok (.invokevirtual 127, 3) := by decide +kernel
theorem dX8_thenPurse_34 : decode cX8_thenPurse 34 = .ok (.ireturn, 1) := by decide +kernel
theorem dX8_bestBy_0 : decode cX8_bestBy 0 = .ok (.iload_n 3, 1) := by decide +kernel
theorem dX8_bestBy_1 : decode cX8_bestBy 1 = .ok (.istore 5, 2) := by decide +kernel
theorem dX8_bestBy_3 : decode cX8_bestBy 3 = .ok (.aload_n 0, 1) := by decide +kernel
theorem dX8_bestBy_4 : decode cX8_bestBy 4 = .ok (.iload_n 1, 1) := by decide +kernel
theorem dX8_bestBy_5 : decode cX8_bestBy 5 = .ok (.iload_n 2, 1) := by decide +kernel
theorem dX8_bestBy_6 : decode cX8_bestBy 6 = .ok (.iload_n 3, 1) := by decide +kernel
theorem dX8_bestBy_7 : decode cX8_bestBy 7 = .ok (.invokevirtual 236, 3) := by decide +kernel
theorem dX8_bestBy_10 : decode cX8_bestBy 10 = .ok (.istore 6, 2) := by decide +kernel
theorem dX8_bestBy_12 : decode cX8_bestBy 12 = .ok (.iload_n 3, 1) := by decide +kernel
theorem dX8_bestBy_13 : decode cX8_bestBy 13 = .ok (.iconst 1, 1) := by decide +kernel
theorem dX8_bestBy_14 : decode cX8_bestBy 14 = .ok (.iadd, 1) := by decide +kernel
theorem dX8_bestBy_15 : decode cX8_bestBy 15 = .ok (.istore 7, 2) := by decide +kernel
theorem dX8_bestBy_17 : decode cX8_bestBy 17 = .ok (.iload 7, 2) := by decide +kernel
theorem dX8_bestBy_19 : decode cX8_bestBy 19 = .ok (.iload 4, 2) := by decide +kernel
theorem dX8_bestBy_21 : decode cX8_bestBy 21 = .ok (.if_icmp .gt 51, 3) := by decide +kernel
theorem dX8_bestBy_24 : decode cX8_bestBy 24 = .ok (.aload_n 0, 1) := by decide +kernel
theorem dX8_bestBy_25 : decode cX8_bestBy 25 = .ok (.iload_n 1, 1) := by decide +kernel
theorem dX8_bestBy_26 : decode cX8_bestBy 26 = .ok (.iload_n 2, 1) := by decide +kernel
theorem dX8_bestBy_27 : decode cX8_bestBy 27 = .ok (.iload 7, 2) := by decide +kernel
theorem dX8_bestBy_29 : decode cX8_bestBy 29 = .ok (.invokevirtual 236, 3) := by decide +kernel
theorem dX8_bestBy_32 : decode cX8_bestBy 32 = .ok (.istore 8, 2) := by decide +kernel
theorem dX8_bestBy_34 : decode cX8_bestBy 34 = .ok (.iload 8, 2) := by decide +kernel
theorem dX8_bestBy_36 : decode cX8_bestBy 36 = .ok (.iload 6, 2) := by decide +kernel
theorem dX8_bestBy_38 : decode cX8_bestBy 38 = .ok (.if_icmp .le 8, 3) := by decide +kernel
theorem dX8_bestBy_41 : decode cX8_bestBy 41 = .ok (.iload 7, 2) := by decide +kernel
theorem dX8_bestBy_43 : decode cX8_bestBy 43 = .ok (.goto 5, 3) := by decide +kernel
theorem dX8_bestBy_46 : decode cX8_bestBy 46 = .ok (.iload 5, 2) := by decide +kernel
theorem dX8_bestBy_48 : decode cX8_bestBy 48 = .ok (.istore 5, 2) := by decide +kernel
theorem dX8_bestBy_50 : decode cX8_bestBy 50 = .ok (.iload 8, 2) := by decide +kernel
theorem dX8_bestBy_52 : decode cX8_bestBy 52 = .ok (.iload 6, 2) := by decide +kernel
theorem dX8_bestBy_54 : decode cX8_bestBy 54 = .ok (.if_icmp .le 8, 3) := by decide +kernel
theorem dX8_bestBy_57 : decode cX8_bestBy 57 = .ok (.iload 8, 2) := by decide +kernel
theorem dX8_bestBy_59 : decode cX8_bestBy 59 = .ok (.goto 5, 3) := by decide +kernel
theorem dX8_bestBy_62 : decode cX8_bestBy 62 = .ok (.iload 6, 2) := by decide +kernel
theorem dX8_bestBy_64 : decode cX8_bestBy 64 = .ok (.istore 6, 2) := by decide +kernel
theorem dX8_bestBy_66 : decode cX8_bestBy 66 = .ok (.iinc 7 1, 3) := by decide +kernel
theorem dX8_bestBy_69 : decode cX8_bestBy 69 = .ok (.goto (-52), 3) := by decide +kernel
theorem dX8_bestBy_72 : decode cX8_bestBy 72 = .ok (.iload 5, 2) := by decide +kernel
theorem dX8_bestBy_74 : decode cX8_bestBy 74 = .ok (.ireturn, 1) := by decide +kernel
theorem dX8_often_0 : decode cX8_often 0 = .ok (.iload_n 1, 1) := by decide +kernel
theorem dX8_often_1 : decode cX8_often 1 = .ok (.i2l, 1) := by decide +kernel
theorem dX8_often_2 : decode cX8_often 2 = .ok (.lconst 0, 1) := by decide +kernel
theorem dX8_often_3 : decode cX8_often 3 = .ok (.ldc2_w 223, 3) := by decide +kernel
theorem dX8_often_6 : decode cX8_often 6 = .ok (.invokestatic 50, 3) := by decide +kernel
theorem dX8_often_9 : decode cX8_often 9 = .ok (.ifCond .eq 16, 3) := by decide +kernel
theorem dX8_often_12 : decode cX8_often 12 = .ok (.aload_n 0, 1) := by decide +kernel
theorem dX8_often_13 : decode cX8_often 13 = .ok (.iload_n 1, 1) := by decide +kernel
theorem dX8_often_14 : decode cX8_often 14 = .ok (.bipush 6, 2) := by decide +kernel
theorem dX8_often_16 : decode cX8_often 16 = .ok (.iconst 1, 1) := by decide +kernel
theorem dX8_often_17 : decode cX8_often 17 = .ok (.bipush 12, 2) := by decide +kernel
theorem dX8_often_19 : decode cX8_often 19 = .ok (.invokevirtual 239, 3) := by decide +kernel
theorem dX8_often_22 : decode cX8_often 22 = .ok (.goto 8, 3) := by decide +kernel
theorem dX8_often_25 : decode cX8_often 25 = .ok (.aload_n 0, 1) := by decide +kernel
theorem dX8_often_26 : decode cX8_often 26 = .ok (.iconst 1, 1) := by decide +kernel
theorem dX8_often_27 : decode cX8_often 27 = .ok (.invokevirtual 127, 3) := by decide +kernel
theorem dX8_often_30 : decode cX8_often 30 = .ok (.ireturn, 1) := by decide +kernel
theorem dX8_dear_0 : decode cX8_dear 0 = .ok (.iload_n 1, 1) := by decide +kernel
theorem dX8_dear_1 : decode cX8_dear 1 = .ok (.i2l, 1) := by decide +kernel
theorem dX8_dear_2 : decode cX8_dear 2 = .ok (.lconst 0, 1) := by decide +kernel
theorem dX8_dear_3 : decode cX8_dear 3 = .ok (.ldc2_w 223, 3) := by decide +kernel
theorem dX8_dear_6 : decode cX8_dear 6 = .ok (.invokestatic 50, 3) := by decide +kernel
theorem dX8_dear_9 : decode cX8_dear 9 = .ok (.ifCond .eq 15, 3) := by decide +kernel
theorem dX8_dear_12 : decode cX8_dear 12 = .ok (.aload_n 0, 1) := by decide +kernel
theorem dX8_dear_13 : decode cX8_dear 13 = .ok (.iload_n 1, 1) := by decide +kernel
theorem dX8_dear_14 : decode cX8_dear 14 = .ok (.iconst 5, 1) := by decide +kernel
theorem dX8_dear_15 : decode cX8_dear 15 = .ok (.iconst 0, 1) := by decide +kernel
theorem dX8_dear_16 : decode cX8_dear 16 = .ok (.bipush 20, 2) := by decide +kernel
theorem dX8_dear_18 : decode cX8_dear 18 = .ok (.invokevirtual 239, 3) := by decide +kernel
theorem dX8_dear_21 : decode cX8_dear 21 = .ok (.goto 8, 3) := by decide +kernel
theorem dX8_dear_24 : decode cX8_dear 24 = .ok (.aload_n 0, 1) := by decide +kernel
theorem dX8_dear_25 : decode cX8_dear 25 = .ok (.iconst 1, 1) := by decide +kernel
theorem dX8_dear_26 : decode cX8_dear 26 = .ok (.invokevirtual 127, 3) := by decide +kernel
theorem dX8_dear_29 : decode cX8_dear 29 = .ok (.ireturn, 1) := by decide +kernel
theorem dX8_still_0 : decode cX8_still 0 = .ok (.aload_n 0, 1) := by decide +kernel
theorem dX8_still_1 : decode cX8_still 1 = .ok (.iload_n 1, 1) := by decide +kernel
theorem dX8_still_2 : decode cX8_still 2 = .ok (.invokevirtual 178, 3) := by decide +kernel
theorem dX8_still_5 : decode cX8_still 5 = .ok (.ifCond .eq 15, 3) := by decide +kernel
theorem dX8_still_8 : decode cX8_still 8 = .ok (.iload_n 2, 1) := by decide +kernel
theorem dX8_still_9 : decode cX8_still 9 = .ok (.i2l, 1) := by decide +kernel
theorem dX8_still_10 : decode cX8_still 10 = .ok (.lconst 0, 1) := by decide +kernel
theorem dX8_still_11 : decode cX8_still 11 = .ok (.ldc2_w 223, 3) := by decide +kernel
theorem dX8_still_14 : decode cX8_still 14 = .ok (.invokestatic 50, 3) := by decide +kernel
theorem dX8_still_17 : decode cX8_still 17 = .ok (.ifCond .ne 9, 3) := by decide +kernel
theorem dX8_still_20 : decode cX8_still 20 = .ok (.aload_n 0, 1) := by decide +kernel
theorem dX8_still_21 : decode cX8_still 21 = .ok (.iconst 1, 1) := by decide +kernel
theorem dX8_still_22 : decode cX8_still 22 = .ok (.invokevirtual 127, 3) := by decide +kernel
theorem dX8_still_25 : decode cX8_still 25 = .ok (.ireturn, 1) := by decide +kernel
theorem dX8_still_26 : decode cX8_still 26 = .ok (.aload_n 0, 1) := by decide +kernel
theorem dX8_still_27 : decode cX8_still 27 = .ok (.getfield 7, 3) := by decide +kernel
theorem dX8_still_30 : decode cX8_still 30 = .ok (.aload_n 0, 1) := by decide +kernel
theorem dX8_still_31 : decode cX8_still 31 = .ok (.getfield 13, 3) := by decide +kernel
theorem dX8_still_34 : decode cX8_still 34 = .ok (.invokestatic 229, 3) := by decide +kernel
theorem dX8_still_37 : decode cX8_still 37 = .ok (.iconst 0, 1) := by decide +kernel
theorem dX8_still_38 : decode cX8_still 38 = .ok (.istore_n 3, 1) := by decide +kernel
theorem dX8_still_39 : decode cX8_still 39 = .ok (.iload_n 3, 1) := by decide +kernel
theorem dX8_still_40 : decode cX8_still 40 = .ok (.iload_n 2, 1) := by decide +kernel
theorem dX8_still_41 : decode cX8_still 41 = .ok (.if_icmp .ge 25, 3) := by decide +kernel
theorem dX8_still_44 : decode cX8_still 44 = .ok (.aload_n 0, 1) := by decide +kernel
theorem dX8_still_45 : decode cX8_still 45 = .ok (.iload_n 1, 1) := by decide +kernel
theorem dX8_still_46 : decode cX8_still 46 = .ok (.iconst 0, 1) := by decide +kernel
theorem dX8_still_47 : decode cX8_still 47 = .ok (.invokevirtual 163, 3) := by decide +kernel
theorem dX8_still_50 : decode cX8_still 50 = .ok (.bipush 6, 2) := by decide +kernel
theorem dX8_still_52 : decode cX8_still 52 = .ok (.if_icmp .eq 14, 3) := by decide +kernel
theorem dX8_still_55 : decode cX8_still 55 = .ok (.aload_n 0, 1) := by decide +kernel
theorem dX8_still_56 : decode cX8_still 56 = .ok (.iconst 0, 1) := by decide +kernel
theorem dX8_still_57 : decode cX8_still 57 = .ok (.invokevirtual 219, 3) := by decide +kernel
theorem dX8_still_60 : decode cX8_still 60 = .ok (.iinc 3 1, 3) := by decide +kernel
theorem dX8_still_63 : decode cX8_still 63 = .ok (.goto (-24), 3) := by decide +kernel
theorem dX8_still_66 : decode cX8_still 66 = .ok (.aload_n 0, 1) := by decide +kernel
theorem dX8_still_67 : decode cX8_still 67 = .ok (.iload_n 1, 1) := by decide +kernel
theorem dX8_still_68 : decode cX8_still 68 = .ok (.iconst 0, 1) := by decide +kernel
theorem dX8_still_69 : decode cX8_still 69 = .ok (.invokevirtual 163, 3) := by decide +kernel
theorem dX8_still_72 : decode cX8_still 72 = .ok (.bipush 6, 2) := by decide +kernel
theorem dX8_still_74 : decode cX8_still 74 = .ok (.if_icmp .ne 7, 3) := by decide +kernel
theorem dX8_still_77 : decode cX8_still 77 = .ok (.iconst 1, 1) := by decide +kernel
theorem dX8_still_78 : decode cX8_still 78 = .ok (.goto 4, 3) := by decide +kernel
theorem dX8_still_81 : decode cX8_still 81 = .ok (.iconst 0, 1) := by decide +kernel
theorem dX8_still_82 : decode cX8_still 82 = .ok (.istore 4, 2) := by decide +kernel
theorem dX8_still_84 : decode cX8_still 84 = .ok (.aload_n 0, 1) := by decide +kernel
theorem dX8_still_85 : decode cX8_still 85 = .ok (.getfield 13, 3) := by decide +kernel
theorem dX8_still_88 : decode cX8_still 88 = .ok (.aload_n 0, 1) := by decide +kernel
theorem dX8_still_89 : decode cX8_still 89 = .ok (.getfield 7, 3) := by decide +kernel
theorem dX8_still_92 : decode cX8_still 92 = .ok (.invokestatic 229, 3) := by decide +kernel
theorem dX8_still_95 : decode cX8_still 95 = .ok (.iload 4, 2) := by decide +kernel
theorem dX8_still_97 : decode cX8_still 97 = .ok (.ifCond .eq 7, 3) := by decide +kernel
theorem dX8_still_100 : decode cX8_still 100 = .ok (.iload_n 3, 1) := by decide +kernel
theorem dX8_still_101 : decode cX8_still 101 = .ok (.goto 8, 3) := by decide +kernel
theorem dX8_still_104 : decode cX8_still 104 = .ok (.aload_n 0, 1) := by decide +kernel
theorem dX8_still_105 : decode cX8_still 105 = .ok (.iconst 2, 1) := by decide +kernel
theorem dX8_still_106 : decode cX8_still 106 = .ok (.invokevirtual 127, 3) := by decide +kernel
theorem dX8_still_109 : decode cX8_still 109 = .ok (.ireturn, 1) := by decide +kernel
theorem dX8_turnsOn_0 : decode cX8_turnsOn 0 = .ok (.iload_n 0, 1) := by decide +kernel
theorem dX8_turnsOn_1 : decode cX8_turnsOn 1 = .ok (.istore_n 2, 1) := by decide +kernel
theorem dX8_turnsOn_2 : decode cX8_turnsOn 2 = .ok (.iconst 3, 1) := by decide +kernel
theorem dX8_turnsOn_3 : decode cX8_turnsOn 3 = .ok (.istore_n 3, 1) := by decide +kernel
theorem dX8_turnsOn_4 : decode cX8_turnsOn 4 = .ok (.iload_n 3, 1) := by decide +kernel
theorem dX8_turnsOn_5 : decode cX8_turnsOn 5 = .ok (.iload_n 1, 1) := by decide +kernel
theorem dX8_turnsOn_6 : decode cX8_turnsOn 6 = .ok (.if_icmp .le 13, 3) := by decide +kernel
theorem dX8_turnsOn_9 : decode cX8_turnsOn 9 = .ok (.iload_n 2, 1) := by decide +kernel
theorem dX8_turnsOn_10 : decode cX8_turnsOn 10 = .ok (.iconst 5, 1) := by decide +kernel
theorem dX8_turnsOn_11 : decode cX8_turnsOn 11 = .ok (.idiv, 1) := by decide +kernel
theorem dX8_turnsOn_12 : decode cX8_turnsOn 12 = .ok (.istore_n 2, 1) := by decide +kernel
theorem dX8_turnsOn_13 : decode cX8_turnsOn 13 = .ok (.iinc 3 (-1), 3) := by decide +kernel
theorem dX8_turnsOn_16 : decode cX8_turnsOn 16 = .ok (.goto (-12), 3) := by decide +kernel
theorem dX8_turnsOn_19 : decode cX8_turnsOn 19 = .ok (.iload_n 2, 1) := by decide +kernel
theorem dX8_turnsOn_20 : decode cX8_turnsOn 20 = .ok (.iconst 5, 1) := by decide +kernel
theorem dX8_turnsOn_21 : decode cX8_turnsOn 21 = .ok (.irem, 1) := by decide +kernel
theorem dX8_turnsOn_22 : decode cX8_turnsOn 22 = .ok (.ireturn, 1) := by decide +kernel
theorem dX8_grindsBy_0 : decode cX8_grindsBy 0 = .ok (.iconst 0, 1) := by decide +kernel
theorem dX8_grindsBy_1 : decode cX8_grindsBy 1 = .ok (.istore_n 3, 1) := by decide +kernel
theorem dX8_grindsBy_2 : decode cX8_grindsBy 2 = .ok (.iload_n 3, 1) := by decide +kernel
theorem dX8_grindsBy_3 : decode cX8_grindsBy 3 = .ok (.iconst 4, 1) := by decide +kernel
theorem dX8_grindsBy_4 : decode cX8_grindsBy 4 = .ok (.if_icmp .ge 34, 3) := by decide +kernel
theorem dX8_grindsBy_7 : decode cX8_grindsBy 7 = .ok (.iconst 0, 1) := by decide +kernel
theorem dX8_grindsBy_8 : decode cX8_grindsBy 8 = .ok (.istore 4, 2) := by decide +kernel
theorem dX8_grindsBy_10 : decode cX8_grindsBy 10 = .ok (.iload 4, 2) := by decide +kernel
theorem dX8_grindsBy_12 : decode cX8_grindsBy 12 = .ok (.iload_n 2, 1) := by decide +kernel
theorem dX8_grindsBy_13 : decode cX8_grindsBy 13 = .ok (.iload_n 3, 1) := by decide +kernel
theorem dX8_grindsBy_14 : decode cX8_grindsBy 14 = .ok (.invokestatic 243, 3) := by decide +kernel
theorem dX8_grindsBy_17 : decode cX8_grindsBy 17 = .ok (.if_icmp .ge 15, 3) := by decide +kernel
theorem dX8_grindsBy_20 : decode cX8_grindsBy 20 = .ok (.aload_n 0, 1) := by decide +kernel
theorem dX8_grindsBy_21 : decode cX8_grindsBy 21 = .ok (.iload_n 1, 1) := by decide +kernel
theorem dX8_grindsBy_22 : decode cX8_grindsBy 22 = .ok (.iload_n 3, 1) := by decide +kernel
theorem dX8_grindsBy_23 : decode cX8_grindsBy 23 = .ok (.invokevirtual 198, 3) := by decide +kernel
theorem dX8_grindsBy_26 : decode cX8_grindsBy 26 = .ok (.iinc 4 1, 3) := by decide +kernel
theorem dX8_grindsBy_29 : decode cX8_grindsBy 29 = .ok (.goto (-19), 3) := by decide +kernel
theorem dX8_grindsBy_32 : decode cX8_grindsBy 32 = .ok (.iinc 3 1, 3) := by decide +kernel
theorem dX8_grindsBy_35 : decode cX8_grindsBy 35 = .ok (.goto (-33), 3) := by decide +kernel
theorem dX8_grindsBy_38 : decode cX8_grindsBy 38 = .ok (.return_, 1) := by decide +kernel
theorem dX8_allTurns_0 : decode cX8_allTurns 0 = .ok (.iload_n 0, 1) := by decide +kernel
theorem dX8_allTurns_1 : decode cX8_allTurns 1 = .ok (.iconst 0, 1) := by decide +kernel
theorem dX8_allTurns_2 : decode cX8_allTurns 2 = .ok (.invokestatic 243, 3) := by decide +kernel
theorem dX8_allTurns_5 : decode cX8_allTurns 5 = .ok (.iload_n 0, 1) := by decide +kernel
theorem dX8_allTurns_6 : decode cX8_allTurns 6 = .ok (.iconst 1, 1) := by decide +kernel
theorem dX8_allTurns_7 : decode cX8_allTurns 7 = .ok (.invokestatic 243, 3) := by decide +kernel
theorem dX8_allTurns_10 : decode cX8_allTurns 10 = .ok (.iadd, 1) := by decide +kernel
theorem dX8_allTurns_11 : decode cX8_allTurns 11 = .ok (.iload_n 0, 1) := by decide +kernel
theorem dX8_allTurns_12 : decode cX8_allTurns 12 = .ok (.iconst 2, 1) := by decide +kernel
theorem dX8_allTurns_13 : decode cX8_allTurns 13 = .ok (.invokestatic 243, 3) := by decide +kernel
theorem dX8_allTurns_16 : decode cX8_allTurns 16 = .ok (.iadd, 1) := by decide +kernel
theorem dX8_allTurns_17 : decode cX8_allTurns 17 = .ok (.iload_n 0, 1) := by decide +kernel
theorem dX8_allTurns_18 : decode cX8_allTurns 18 = .ok (.iconst 3, 1) := by decide +kernel
theorem dX8_allTurns_19 : decode cX8_allTurns 19 = .ok (.invokestatic 243, 3) := by decide +kernel
theorem dX8_allTurns_22 : decode cX8_allTurns 22 = .ok (.iadd, 1) := by decide +kernel
theorem dX8_allTurns_23 : decode cX8_allTurns 23 = .ok (.ireturn, 1) := by decide +kernel
theorem dX8_least_0 : decode cX8_least 0 = .ok (.aload_n 0, 1) := by decide +kernel
theorem dX8_least_1 : decode cX8_least 1 = .ok (.iload_n 1, 1) := by decide +kernel
theorem dX8_least_2 : decode cX8_least 2 = .ok (.invokevirtual 178, 3) := by decide +kernel
theorem dX8_least_5 : decode cX8_least 5 = .ok (.ifCond .eq 29, 3) := by decide +kernel
theorem dX8_least_8 : decode cX8_least 8 = .ok (.iload_n 2, 1) := by decide +kernel
theorem dX8_least_9 : decode cX8_least 9 = .ok (.i2l, 1) := by decide +kernel
theorem dX8_least_10 : decode cX8_least 10 = .ok (.lconst 0, 1) := by decide +kernel
theorem dX8_least_11 : decode cX8_least 11 = .ok (.ldc2_w 151, 3) := by decide +kernel
theorem dX8_least_14 : decode cX8_least 14 = .ok (.invokestatic 50, 3) := by decide +kernel
theorem dX8_least_17 : decode cX8_least 17 = .ok (.ifCond .eq 17, 3) := by decide +kernel
theorem dX8_least_20 : decode cX8_least 20 = .ok (.iload_n 3, 1) := by decide +kernel
theorem dX8_least_21 : decode cX8_least 21 = .ok (.i2l, 1) := by decide +kernel
theorem dX8_least_22 : decode cX8_least 22 = .ok (.ldc2_w 246, 3) := by decide +kernel
theorem dX8_least_25 : decode cX8_least 25 = .ok (.ldc2_w 194, 3) := by decide +kernel
theorem dX8_least_28 : decode cX8_least 28 = .ok (.invokestatic 50, 3) := by decide +kernel
theorem dX8_least_31 : decode cX8_least 31 = .ok (.ifCond .ne 9, 3) := by decide +kernel
theorem dX8_least_34 : decode cX8_least 34 = .ok (.aload_n 0, 1) := by decide +kernel
theorem dX8_least_35 : decode cX8_least 35 = .ok (.iconst 1, 1) := by decide +kernel
theorem dX8_least_36 : decode cX8_least 36 = .ok (.invokevirtual 127, 3) := by decide +kernel
theorem dX8_least_39 : decode cX8_least 39 = .ok (.ireturn, 1) := by decide +kernel
theorem dX8_least_40 : decode cX8_least 40 = .ok (.iconst (-1), 1) := by decide +kernel
theorem dX8_least_41 : decode cX8_least 41 = .ok (.istore 4, 2) := by decide +kernel
theorem dX8_least_43 : decode cX8_least 43 = .ok (.iconst 0, 1) := by decide +kernel
theorem dX8_least_44 : decode cX8_least 44 = .ok (.istore 5, 2) := by decide +kernel
theorem dX8_least_46 : decode cX8_least 46 = .ok (.iconst 0, 1) := by decide +kernel
theorem dX8_least_47 : decode cX8_least 47 = .ok (.istore 6, 2) := by decide +kernel
theorem dX8_least_49 : decode cX8_least 49 = .ok (.iload 6, 2) := by decide +kernel
theorem dX8_least_51 : decode cX8_least 51 = .ok (.sipush 625, 3) := by decide +kernel
theorem dX8_least_54 : decode cX8_least 54 = .ok (.if_icmp .ge 146, 3) := by decide +kernel
theorem dX8_least_57 : decode cX8_least 57 = .ok (.aload_n 0, 1) := by decide +kernel
theorem dX8_least_58 : decode cX8_least 58 = .ok (.getfield 7, 3) := by decide +kernel
theorem dX8_least_61 : decode cX8_least 61 = .ok (.aload_n 0, 1) := by decide +kernel
theorem dX8_least_62 : decode cX8_least 62 = .ok (.getfield 13, 3) := by decide +kernel
theorem dX8_least_65 : decode cX8_least 65 = .ok (.invokestatic 229, 3) := by decide +kernel
theorem dX8_least_68 : decode cX8_least 68 = .ok (.aload_n 0, 1) := by decide +kernel
theorem dX8_least_69 : decode cX8_least 69 = .ok (.iload_n 1, 1) := by decide +kernel
theorem dX8_least_70 : decode cX8_least 70 = .ok (.iload 6, 2) := by decide +kernel
theorem dX8_least_72 : decode cX8_least 72 = .ok (.invokevirtual 248, 3) := by decide +kernel
theorem dX8_least_75 : decode cX8_least 75 = .ok (.aload_n 0, 1) := by decide +kernel
theorem dX8_least_76 : decode cX8_least 76 = .ok (.iload_n 1, 1) := by decide +kernel
theorem dX8_least_77 : decode cX8_least 77 = .ok (.iconst 3, 1) := by decide +kernel
theorem dX8_least_78 : decode cX8_least 78 = .ok (.invokevirtual 163, 3) := by decide +kernel
theorem dX8_least_81 : decode cX8_least 81 = .ok (.iload_n 2, 1) := by decide +kernel
theorem dX8_least_82 : decode cX8_least 82 = .ok (.if_icmp .lt 30, 3) := by decide +kernel
theorem dX8_least_85 : decode cX8_least 85 = .ok (.aload_n 0, 1) := by decide +kernel
theorem dX8_least_86 : decode cX8_least 86 = .ok (.iload_n 1, 1) := by decide +kernel
theorem dX8_least_87 : decode cX8_least 87 = .ok (.iconst 0, 1) := by decide +kernel
theorem dX8_least_88 : decode cX8_least 88 = .ok (.invokevirtual 163, 3) := by decide +kernel
theorem dX8_least_91 : decode cX8_least 91 = .ok (.aload_n 0, 1) := by decide +kernel
theorem dX8_least_92 : decode cX8_least 92 = .ok (.getfield 13, 3) := by decide +kernel
theorem dX8_least_95 : decode cX8_least 95 = .ok (.bipush 13, 2) := by decide +kernel
theorem dX8_least_97 : decode cX8_least 97 = .ok (.bipush 9, 2) := by decide +kernel
theorem dX8_least_99 : decode cX8_least 99 = .ok (.iload_n 1, 1) := by decide +kernel
theorem dX8_least_100 : decode cX8_least 100 = .ok (.imul, 1) := by decide +kernel
theorem dX8_least_101 : decode cX8_least 101 = .ok (.iadd, 1) := by decide +kernel
theorem dX8_least_102 : decode cX8_least 102 = .ok (.iconst 0, 1) := by decide +kernel
theorem dX8_least_103 : decode cX8_least 103 = .ok (.iadd, 1) := by decide +kernel
theorem dX8_least_104 : decode cX8_least 104 = .ok (.iaload, 1) := by decide +kernel
theorem dX8_least_105 : decode cX8_least 105 = .ok (.if_icmp .ne 7, 3) := by decide +kernel
theorem dX8_least_108 : decode cX8_least 108 = .ok (.iconst 1, 1) := by decide +kernel
theorem dX8_least_109 : decode cX8_least 109 = .ok (.goto 4, 3) := by decide +kernel
theorem dX8_least_112 : decode cX8_least 112 = .ok (.iconst 0, 1) := by decide +kernel
theorem dX8_least_113 : decode cX8_least 113 = .ok (.istore 7, 2) := by decide +kernel
theorem dX8_least_115 : decode cX8_least 115 = .ok (.aload_n 0, 1) := by decide +kernel
theorem dX8_least_116 : decode cX8_least 116 = .ok (.getfield 13, 3) := by decide +kernel
theorem dX8_least_119 : decode cX8_least 119 = .ok (.bipush 13, 2) := by decide +kernel
theorem dX8_least_121 : decode cX8_least 121 = .ok (.bipush 9, 2) := by decide +kernel
theorem dX8_least_123 : decode cX8_least 123 = .ok (.iload_n 1, 1) := by decide +kernel
theorem dX8_least_124 : decode cX8_least 124 = .ok (.imul, 1) := by decide +kernel
theorem dX8_least_125 : decode cX8_least 125 = .ok (.iadd, 1) := by decide +kernel
theorem dX8_least_126 : decode cX8_least 126 = .ok (.iconst 4, 1) := by decide +kernel
theorem dX8_least_127 : decode cX8_least 127 = .ok (.iadd, 1) := by decide +kernel
theorem dX8_least_128 : decode cX8_least 128 = .ok (.iaload, 1) := by decide +kernel
theorem dX8_least_129 : decode cX8_least 129 = .ok (.aload_n 0, 1) := by decide +kernel
theorem dX8_least_130 : decode cX8_least 130 = .ok (.iload_n 1, 1) := by decide +kernel
theorem dX8_least_131 : decode cX8_least 131 = .ok (.iconst 4, 1) := by decide +kernel
theorem dX8_least_132 : decode cX8_least 132 = .ok (.invokevirtual 163, 3) := by decide +kernel
theorem dX8_least_135 : decode cX8_least 135 = .ok (.isub, 1) := by decide +kernel
theorem dX8_least_136 : decode cX8_least 136 = .ok (.istore 8, 2) := by decide +kernel
theorem dX8_least_138 : decode cX8_least 138 = .ok (.aload_n 0, 1) := by decide +kernel
theorem dX8_least_139 : decode cX8_least 139 = .ok (.getfield 13, 3) := by decide +kernel
theorem dX8_least_142 : decode cX8_least 142 = .ok (.aload_n 0, 1) := by decide +kernel
theorem dX8_least_143 : decode cX8_least 143 = .ok (.getfield 7, 3) := by decide +kernel
theorem dX8_least_146 : decode cX8_least 146 = .ok (.invokestatic 229, 3) := by decide +kernel
theorem dX8_least_149 : decode cX8_least 149 = .ok (.iload 7, 2) := by decide +kernel
theorem dX8_least_151 : decode cX8_least 151 = .ok (.ifCond .eq 43, 3) := by decide +kernel
theorem dX8_least_154 : decode cX8_least 154 = .ok (.iload 4, 2) := by decide +kernel
theorem dX8_least_156 : decode cX8_least 156 = .ok (.ifCond .lt 30, 3) := by decide +kernel
theorem dX8_least_159 : decode cX8_least 159 = .ok (.iload 8, 2) := by decide +kernel
theorem dX8_least_161 : decode cX8_least 161 = .ok (.iload 5, 2) := by decide +kernel
theorem dX8_least_163 : decode cX8_least 163 = .ok (.if_icmp .lt 23, 3) := by decide +kernel
theorem dX8_least_166 : decode cX8_least 166 = .ok (.iload 8, 2) := by decide +kernel
theorem dX8_least_168 : decode cX8_least 168 = .ok (.iload 5, 2) := by decide +kernel
theorem dX8_least_170 : decode cX8_least 170 = .ok (.if_icmp .ne 24, 3) := by decide +kernel
theorem dX8_least_173 : decode cX8_least 173 = .ok (.iload 6, 2) := by decide +kernel
theorem dX8_least_175 : decode cX8_least 175 = .ok (.invokestatic 251, 3) := by decide +kernel
theorem dX8_least_178 : decode cX8_least 178 = .ok (.iload 4, 2) := by decide +kernel
theorem dX8_least_180 : decode cX8_least 180 = .ok (.invokestatic 251, 3) := by decide +kernel
theorem dX8_least_183 : decode cX8_least 183 = .ok (.if_icmp .ge 11, 3) := by decide +kernel
theorem dX8_least_186 : decode cX8_least 186 = .ok (.iload 6, 2) := by decide +kernel
theorem dX8_least_188 : decode cX8_least 188 = .ok (.istore 4, 2) := by decide +kernel
theorem dX8_least_190 : decode cX8_least 190 = .ok (.iload 8, 2) := by decide +kernel
theorem dX8_least_192 : decode cX8_least 192 = .ok (.istore 5, 2) := by decide +kernel
theorem dX8_least_194 : decode cX8_least 194 = .ok (.iinc 6 1, 3) := by decide +kernel
theorem dX8_least_197 : decode cX8_least 197 = .ok (.goto (-148), 3) := by decide +kernel
theorem dX8_least_200 : decode cX8_least 200 = .ok (.iload 4, 2) := by decide +kernel
theorem dX8_least_202 : decode cX8_least 202 = .ok (.ifCond .ge 11, 3) := by decide +kernel
theorem dX8_least_205 : decode cX8_least 205 = .ok (.aload_n 0, 1) := by decide +kernel
theorem dX8_least_206 : decode cX8_least 206 = .ok (.iconst 2, 1) := by decide +kernel
theorem dX8_least_207 : decode cX8_least 207 = .ok (.invokevirtual 127, 3) := by decide +kernel
theorem dX8_least_210 : decode cX8_least 210 = .ok (.goto 18, 3) := by decide +kernel
theorem dX8_least_213 : decode cX8_least 213 = .ok (.iload_n 3, 1) := by decide +kernel
theorem dX8_least_214 : decode cX8_least 214 = .ok (.ifCond .ge 8, 3) := by decide +kernel
theorem dX8_least_217 : decode cX8_least 217 = .ok (.iload 5, 2) := by decide +kernel
theorem dX8_least_219 : decode cX8_least 219 = .ok (.goto 9, 3) := by decide +kernel
theorem dX8_least_222 : decode cX8_least 222 = .ok (.iload 4, 2) := by decide +kernel
theorem dX8_least_224 : decode cX8_least 224 = .ok (.iload_n 3, 1) := by decide +kernel
theorem dX8_least_225 : decode cX8_least 225 = .ok (.invokestatic 243, 3) := by decide +kernel
theorem dX8_least_228 : decode cX8_least 228 = .ok (.ireturn, 1) := by decide +kernel
theorem dX8_line_0 : decode cX8_line 0 = .ok (.aload_n 0, 1) := by decide +kernel
theorem dX8_line_1 : decode cX8_line 1 = .ok (.iload_n 1, 1) := by decide +kernel
theorem dX8_line_2 : decode cX8_line 2 = .ok (.invokevirtual 178, 3) := by decide +kernel
theorem dX8_line_5 : decode cX8_line 5 = .ok (.ifCond .eq 15, 3) := by decide +kernel
theorem dX8_line_8 : decode cX8_line 8 = .ok (.iload_n 2, 1) := by decide +kernel
theorem dX8_line_9 : decode cX8_line 9 = .ok (.i2l, 1) := by decide +kernel
theorem dX8_line_10 : decode cX8_line 10 = .ok (.lconst 0, 1) := by decide +kernel
theorem dX8_line_11 : decode cX8_line 11 = .ok (.ldc2_w 194, 3) := by decide +kernel
theorem dX8_line_14 : decode cX8_line 14 = .ok (.invokestatic 50, 3) := by decide +kernel
theorem dX8_line_17 : decode cX8_line 17 = .ok (.ifCond .ne 9, 3) := by decide +kernel
theorem dX8_line_20 : decode cX8_line 20 = .ok (.aload_n 0, 1) := by decide +kernel
theorem dX8_line_21 : decode cX8_line 21 = .ok (.iconst 1, 1) := by decide +kernel
theorem dX8_line_22 : decode cX8_line 22 = .ok (.invokevirtual 127, 3) := by decide +kernel
theorem dX8_line_25 : decode cX8_line 25 = .ok (.ireturn, 1) := by decide +kernel
theorem dX8_line_26 : decode cX8_line 26 = .ok (.aload_n 0, 1) := by decide +kernel
theorem dX8_line_27 : decode cX8_line 27 = .ok (.iload_n 1, 1) := by decide +kernel
theorem dX8_line_28 : decode cX8_line 28 = .ok (.iconst 4, 1) := by decide +kernel
theorem dX8_line_29 : decode cX8_line 29 = .ok (.invokevirtual 163, 3) := by decide +kernel
theorem dX8_line_32 : decode cX8_line 32 = .ok (.istore_n 3, 1) := by decide +kernel
theorem dX8_line_33 : decode cX8_line 33 = .ok (.aload_n 0, 1) := by decide +kernel
theorem dX8_line_34 : decode cX8_line 34 = .ok (.iload_n 1, 1) := by decide +kernel
theorem dX8_line_35 : decode cX8_line 35 = .ok (.iconst 5, 1) := by decide +kernel
theorem dX8_line_36 : decode cX8_line 36 = .ok (.invokevirtual 163, 3) := by decide +kernel
theorem dX8_line_39 : decode cX8_line 39 = .ok (.istore 4, 2) := by decide +kernel
theorem dX8_line_41 : decode cX8_line 41 = .ok (.iconst 0, 1) := by decide +kernel
theorem dX8_line_42 : decode cX8_line 42 = .ok (.istore 5, 2) := by decide +kernel
theorem dX8_line_44 : decode cX8_line 44 = .ok (.iload 5, 2) := by decide +kernel
theorem dX8_line_46 : decode cX8_line 46 = .ok (.bipush 60, 2) := by decide +kernel
theorem dX8_line_48 : decode cX8_line 48 = .ok (.if_icmp .ge 60, 3) := by decide +kernel
theorem dX8_line_51 : decode cX8_line 51 = .ok (.iload_n 3, 1) := by decide +kernel
theorem dX8_line_52 : decode cX8_line 52 = .ok (.iconst 3, 1) := by decide +kernel
theorem dX8_line_53 : decode cX8_line 53 = .ok (.isub, 1) := by decide +kernel
theorem dX8_line_54 : decode cX8_line 54 = .ok (.iload_n 2, 1) := by decide +kernel
theorem dX8_line_55 : decode cX8_line 55 = .ok (.iadd, 1) := by decide +kernel
theorem dX8_line_56 : decode cX8_line 56 = .ok (.iconst 0, 1) := by decide +kernel
theorem dX8_line_57 : decode cX8_line 57 = .ok (.sipush 999, 3) := by decide +kernel
theorem dX8_line_60 : decode cX8_line 60 = .ok (.invokestatic 140, 3) := by decide +kernel
theorem dX8_line_63 : decode cX8_line 63 = .ok (.istore_n 3, 1) := by decide +kernel
theorem dX8_line_64 : decode cX8_line 64 = .ok (.iload 4, 2) := by decide +kernel
theorem dX8_line_66 : decode cX8_line 66 = .ok (.bipush 9, 2) := by decide +kernel
theorem dX8_line_68 : decode cX8_line 68 = .ok (.iadd, 1) := by decide +kernel
theorem dX8_line_69 : decode cX8_line 69 = .ok (.iconst 2, 1) := by decide +kernel
theorem dX8_line_70 : decode cX8_line 70 = .ok (.iload_n 2, 1) := by decide +kernel
theorem dX8_line_71 : decode cX8_line 71 = .ok (.imul, 1) := by decide +kernel
theorem dX8_line_72 : decode cX8_line 72 = .ok (.isub, 1) := by decide +kernel
theorem dX8_line_73 : decode cX8_line 73 = .ok (.aload_n 0, 1) := by decide +kernel
theorem dX8_line_74 : decode cX8_line 74 = .ok (.getfield 7, 3) := by decide +kernel
theorem dX8_line_77 : decode cX8_line 77 = .ok (.iconst 4, 1) := by decide +kernel
theorem dX8_line_78 : decode cX8_line 78 = .ok (.iaload, 1) := by decide +kernel
theorem dX8_line_79 : decode cX8_line 79 = .ok (.isub, 1) := by decide +kernel
theorem dX8_line_80 : decode cX8_line 80 = .ok (.iconst 0, 1) := by decide +kernel
theorem dX8_line_81 : decode cX8_line 81 = .ok (.bipush 99, 2) := by decide +kernel
theorem dX8_line_83 : decode cX8_line 83 = .ok (.invokestatic 140, 3) := by decide +kernel
theorem dX8_line_86 : decode cX8_line 86 = .ok (.istore 4, 2) := by decide +kernel
theorem dX8_line_88 : decode cX8_line 88 = .ok (.iload_n 3, 1) := by decide +kernel
theorem dX8_line_89 : decode cX8_line 89 = .ok (.ifCond .eq 10, 3) := by decide +kernel
theorem dX8_line_92 : decode cX8_line 92 = .ok (.iload 4, 2) := by decide +kernel
theorem dX8_line_94 : decode cX8_line 94 = .ok (.bipush 60, 2) := by decide +kernel
theorem dX8_line_96 : decode cX8_line 96 = .ok (.if_icmp .lt 6, 3) := by decide +kernel
theorem dX8_line_99 : decode cX8_line 99 = .ok (.iload 5, 2) := by decide +kernel
theorem dX8_line_101 : decode cX8_line 101 = .ok (.ireturn, 1) := by decide +kernel
theorem dX8_line_102 : decode cX8_line 102 = .ok (.iinc 5 1, 3) := by decide +kernel
theorem dX8_line_105 : decode cX8_line 105 = .ok (.goto (-61), 3) := by decide +kernel
theorem dX8_line_108 : decode cX8_line 108 = .ok (.iload 5, 2) := by decide +kernel
theorem dX8_line_110 : decode cX8_line 110 = .ok (.ireturn, 1) := by decide +kernel
theorem dX8_hand_0 : decode cX8_hand 0 = .ok (.aload_n 0, 1) := by decide +kernel
theorem dX8_hand_1 : decode cX8_hand 1 = .ok (.iload_n 1, 1) := by decide +kernel
theorem dX8_hand_2 : decode cX8_hand 2 = .ok (.invokevirtual 178, 3) := by decide +kernel
theorem dX8_hand_5 : decode cX8_hand 5 = .ok (.ifCond .eq 42, 3) := by decide +kernel
theorem dX8_hand_8 : decode cX8_hand 8 = .ok (.iload_n 2, 1) := by decide +kernel
theorem dX8_hand_9 : decode cX8_hand 9 = .ok (.i2l, 1) := by decide +kernel
theorem dX8_hand_10 : decode cX8_hand 10 = .ok (.lconst 0, 1) := by decide +kernel
theorem dX8_hand_11 : decode cX8_hand 11 = .ok (.ldc2_w 151, 3) := by decide +kernel
theorem dX8_hand_14 : decode cX8_hand 14 = .ok (.invokestatic 50, 3) := by decide +kernel
theorem dX8_hand_17 : decode cX8_hand 17 = .ok (.ifCond .eq 30, 3) := by decide +kernel
theorem dX8_hand_20 : decode cX8_hand 20 = .ok (.iload_n 3, 1) := by decide +kernel
theorem dX8_hand_21 : decode cX8_hand 21 = .ok (.i2l, 1) := by decide +kernel
theorem dX8_hand_22 : decode cX8_hand 22 = .ok (.lconst 0, 1) := by decide +kernel
theorem dX8_hand_23 : decode cX8_hand 23 = .ok (.ldc2_w 254, 3) := by decide +kernel
theorem dX8_hand_26 : decode cX8_hand 26 = .ok (.invokestatic 50, 3) := by decide +kernel
theorem dX8_hand_29 : decode cX8_hand 29 = .ok (.ifCond .eq 18, 3) := by decide +kernel
theorem dX8_hand_32 : decode cX8_hand 32 = .ok (.iload 4, 2) := by decide +kernel
theorem dX8_hand_34 : decode cX8_hand 34 = .ok (.i2l, 1) := by decide +kernel
theorem dX8_hand_35 : decode cX8_hand 35 = .ok (.ldc2_w 246, 3) := by decide +kernel
theorem dX8_hand_38 : decode cX8_hand 38 = .ok (.ldc2_w 194, 3) := by decide +kernel
theorem dX8_hand_41 : decode cX8_hand 41 = .ok (.invokestatic 50, 3) := by decide +kernel
theorem dX8_hand_44 : decode cX8_hand 44 = .ok (.ifCond .ne 9, 3) := by decide +kernel
theorem dX8_hand_47 : decode cX8_hand 47 = .ok (.aload_n 0, 1) := by decide +kernel
theorem dX8_hand_48 : decode cX8_hand 48 = .ok (.iconst 1, 1) := by decide +kernel
theorem dX8_hand_49 : decode cX8_hand 49 = .ok (.invokevirtual 127, 3) := by decide +kernel
theorem dX8_hand_52 : decode cX8_hand 52 = .ok (.ireturn, 1) := by decide +kernel
theorem dX8_hand_53 : decode cX8_hand 53 = .ok (.iconst 0, 1) := by decide +kernel
theorem dX8_hand_54 : decode cX8_hand 54 = .ok (.istore 5, 2) := by decide +kernel
theorem dX8_hand_56 : decode cX8_hand 56 = .ok (.iconst (-1), 1) := by decide +kernel
theorem dX8_hand_57 : decode cX8_hand 57 = .ok (.istore 6, 2) := by decide +kernel
theorem dX8_hand_59 : decode cX8_hand 59 = .ok (.sipush 624, 3) := by decide +kernel
theorem dX8_hand_62 : decode cX8_hand 62 = .ok (.istore 7, 2) := by decide +kernel
theorem dX8_hand_64 : decode cX8_hand 64 = .ok (.iload 7, 2) := by decide +kernel
theorem dX8_hand_66 : decode cX8_hand 66 = .ok (.ifCond .lt 141, 3) := by decide +kernel
theorem dX8_hand_69 : decode cX8_hand 69 = .ok (.aload_n 0, 1) := by decide +kernel
theorem dX8_hand_70 : decode cX8_hand 70 = .ok (.getfield 7, 3) := by decide +kernel
theorem dX8_hand_73 : decode cX8_hand 73 = .ok (.aload_n 0, 1) := by decide +kernel
theorem dX8_hand_74 : decode cX8_hand 74 = .ok (.getfield 13, 3) := by decide +kernel
theorem dX8_hand_77 : decode cX8_hand 77 = .ok (.invokestatic 229, 3) := by decide +kernel
theorem dX8_hand_80 : decode cX8_hand 80 = .ok (.aload_n 0, 1) := by decide +kernel
theorem dX8_hand_81 : decode cX8_hand 81 = .ok (.iload_n 1, 1) := by decide +kernel
theorem dX8_hand_82 : decode cX8_hand 82 = .ok (.iconst 3, 1) := by decide +kernel
theorem dX8_hand_83 : decode cX8_hand 83 = .ok (.iload_n 2, 1) := by decide +kernel
theorem dX8_hand_84 : decode cX8_hand 84 = .ok (.invokevirtual 153, 3) := by decide +kernel
theorem dX8_hand_87 : decode cX8_hand 87 = .ok (.aload_n 0, 1) := by decide +kernel
theorem dX8_hand_88 : decode cX8_hand 88 = .ok (.iload_n 1, 1) := by decide +kernel
theorem dX8_hand_89 : decode cX8_hand 89 = .ok (.iconst 4, 1) := by decide +kernel
theorem dX8_hand_90 : decode cX8_hand 90 = .ok (.iload_n 3, 1) := by decide +kernel
theorem dX8_hand_91 : decode cX8_hand 91 = .ok (.invokevirtual 153, 3) := by decide +kernel
theorem dX8_hand_94 : decode cX8_hand 94 = .ok (.aload_n 0, 1) := by decide +kernel
theorem dX8_hand_95 : decode cX8_hand 95 = .ok (.iload_n 1, 1) := by decide +kernel
theorem dX8_hand_96 : decode cX8_hand 96 = .ok (.iconst 5, 1) := by decide +kernel
theorem dX8_hand_97 : decode cX8_hand 97 = .ok (.iconst 0, 1) := by decide +kernel
theorem dX8_hand_98 : decode cX8_hand 98 = .ok (.invokevirtual 153, 3) := by decide +kernel
theorem dX8_hand_101 : decode cX8_hand 101 = .ok (.aload_n 0, 1) := by decide +kernel
theorem dX8_hand_102 : decode cX8_hand 102 = .ok (.iload_n 1, 1) := by decide +kernel
theorem dX8_hand_103 : decode cX8_hand 103 = .ok (.iload 7, 2) := by decide +kernel
theorem dX8_hand_105 : decode cX8_hand 105 = .ok (.invokevirtual 248, 3) := by decide +kernel
theorem dX8_hand_108 : decode cX8_hand 108 = .ok (.aload_n 0, 1) := by decide +kernel
theorem dX8_hand_109 : decode cX8_hand 109 = .ok (.iload_n 1, 1) := by decide +kernel
theorem dX8_hand_110 : decode cX8_hand 110 = .ok (.iconst 3, 1) := by decide +kernel
theorem dX8_hand_111 : decode cX8_hand 111 = .ok (.invokevirtual 163, 3) := by decide +kernel
theorem dX8_hand_114 : decode cX8_hand 114 = .ok (.aload_n 0, 1) := by decide +kernel
theorem dX8_hand_115 : decode cX8_hand 115 = .ok (.getfield 13, 3) := by decide +kernel
theorem dX8_hand_118 : decode cX8_hand 118 = .ok (.bipush 13, 2) := by decide +kernel
theorem dX8_hand_120 : decode cX8_hand 120 = .ok (.bipush 9, 2) := by decide +kernel
theorem dX8_hand_122 : decode cX8_hand 122 = .ok (.iload_n 1, 1) := by decide +kernel
theorem dX8_hand_123 : decode cX8_hand 123 = .ok (.imul, 1) := by decide +kernel
theorem dX8_hand_124 : decode cX8_hand 124 = .ok (.iadd, 1) := by decide +kernel
theorem dX8_hand_125 : decode cX8_hand 125 = .ok (.iconst 3, 1) := by decide +kernel
theorem dX8_hand_126 : decode cX8_hand 126 = .ok (.iadd, 1) := by decide +kernel
theorem dX8_hand_127 : decode cX8_hand 127 = .ok (.iaload, 1) := by decide +kernel
theorem dX8_hand_128 : decode cX8_hand 128 = .ok (.if_icmp .ne 30, 3) := by decide +kernel
theorem dX8_hand_131 : decode cX8_hand 131 = .ok (.aload_n 0, 1) := by decide +kernel
theorem dX8_hand_132 : decode cX8_hand 132 = .ok (.iload_n 1, 1) := by decide +kernel
theorem dX8_hand_133 : decode cX8_hand 133 = .ok (.iconst 4, 1) := by decide +kernel
theorem dX8_hand_134 : decode cX8_hand 134 = .ok (.invokevirtual 163, 3) := by decide +kernel
theorem dX8_hand_137 : decode cX8_hand 137 = .ok (.aload_n 0, 1) := by decide +kernel
theorem dX8_hand_138 : decode cX8_hand 138 = .ok (.getfield 13, 3) := by decide +kernel
theorem dX8_hand_141 : decode cX8_hand 141 = .ok (.bipush 13, 2) := by decide +kernel
theorem dX8_hand_143 : decode cX8_hand 143 = .ok (.bipush 9, 2) := by decide +kernel
theorem dX8_hand_145 : decode cX8_hand 145 = .ok (.iload_n 1, 1) := by decide +kernel
theorem dX8_hand_146 : decode cX8_hand 146 = .ok (.imul, 1) := by decide +kernel
theorem dX8_hand_147 : decode cX8_hand 147 = .ok (.iadd, 1) := by decide +kernel
theorem dX8_hand_148 : decode cX8_hand 148 = .ok (.iconst 4, 1) := by decide +kernel
theorem dX8_hand_149 : decode cX8_hand 149 = .ok (.iadd, 1) := by decide +kernel
theorem dX8_hand_150 : decode cX8_hand 150 = .ok (.iaload, 1) := by decide +kernel
theorem dX8_hand_151 : decode cX8_hand 151 = .ok (.if_icmp .ne 7, 3) := by decide +kernel
theorem dX8_hand_154 : decode cX8_hand 154 = .ok (.iconst 1, 1) := by decide +kernel
theorem dX8_hand_155 : decode cX8_hand 155 = .ok (.goto 4, 3) := by decide +kernel
theorem dX8_hand_158 : decode cX8_hand 158 = .ok (.iconst 0, 1) := by decide +kernel
theorem dX8_hand_159 : decode cX8_hand 159 = .ok (.istore 8, 2) := by decide +kernel
theorem dX8_hand_161 : decode cX8_hand 161 = .ok (.aload_n 0, 1) := by decide +kernel
theorem dX8_hand_162 : decode cX8_hand 162 = .ok (.getfield 13, 3) := by decide +kernel
theorem dX8_hand_165 : decode cX8_hand 165 = .ok (.aload_n 0, 1) := by decide +kernel
theorem dX8_hand_166 : decode cX8_hand 166 = .ok (.getfield 7, 3) := by decide +kernel
theorem dX8_hand_169 : decode cX8_hand 169 = .ok (.invokestatic 229, 3) := by decide +kernel
theorem dX8_hand_172 : decode cX8_hand 172 = .ok (.iload 5, 2) := by decide +kernel
theorem dX8_hand_174 : decode cX8_hand 174 = .ok (.iload 8, 2) := by decide +kernel
theorem dX8_hand_176 : decode cX8_hand 176 = .ok (.ifCond .eq 7, 3) := by decide +kernel
theorem dX8_hand_179 : decode cX8_hand 179 = .ok (.iconst 1, 1) := by decide +kernel
theorem dX8_hand_180 : decode cX8_hand 180 = .ok (.goto 4, 3) := by decide +kernel
theorem dX8_hand_183 : decode cX8_hand 183 = .ok (.iconst 0, 1) := by decide +kernel
theorem dX8_hand_184 : decode cX8_hand 184 = .ok (.iadd, 1) := by decide +kernel
theorem dX8_hand_185 : decode cX8_hand 185 = .ok (.istore 5, 2) := by decide +kernel
theorem dX8_hand_187 : decode cX8_hand 187 = .ok (.iload 8, 2) := by decide +kernel
theorem dX8_hand_189 : decode cX8_hand 189 = .ok (.ifCond .eq 8, 3) := by decide +kernel
theorem dX8_hand_192 : decode cX8_hand 192 = .ok (.iload 7, 2) := by decide +kernel
theorem dX8_hand_194 : decode cX8_hand 194 = .ok (.goto 5, 3) := by decide +kernel
theorem dX8_hand_197 : decode cX8_hand 197 = .ok (.iload 6, 2) := by decide +kernel
theorem dX8_hand_199 : decode cX8_hand 199 = .ok (.istore 6, 2) := by decide +kernel
theorem dX8_hand_201 : decode cX8_hand 201 = .ok (.iinc 7 (-1), 3) := by decide +kernel
theorem dX8_hand_204 : decode cX8_hand 204 = .ok (.goto (-140), 3) := by decide +kernel
theorem dX8_hand_207 : decode cX8_hand 207 = .ok (.iload 4, 2) := by decide +kernel
theorem dX8_hand_209 : decode cX8_hand 209 = .ok (.ifCond .ge 8, 3) := by decide +kernel
theorem dX8_hand_212 : decode cX8_hand 212 = .ok (.iload 5, 2) := by decide +kernel
theorem dX8_hand_214 : decode cX8_hand 214 = .ok (.goto 23, 3) := by decide +kernel
theorem dX8_hand_217 : decode cX8_hand 217 = .ok (.iload 6, 2) := by decide +kernel
theorem dX8_hand_219 : decode cX8_hand 219 = .ok (.ifCond .ge 11, 3) := by decide +kernel
theorem dX8_hand_222 : decode cX8_hand 222 = .ok (.aload_n 0, 1) := by decide +kernel
theorem dX8_hand_223 : decode cX8_hand 223 = .ok (.iconst 2, 1) := by decide +kernel
theorem dX8_hand_224 : decode cX8_hand 224 = .ok (.invokevirtual 127, 3) := by decide +kernel
theorem dX8_hand_227 : decode cX8_hand 227 = .ok (.goto 10, 3) := by decide +kernel
theorem dX8_hand_230 : decode cX8_hand 230 = .ok (.iload 6, 2) := by decide +kernel
theorem dX8_hand_232 : decode cX8_hand 232 = .ok (.iload 4, 2) := by decide +kernel
theorem dX8_hand_234 : decode cX8_hand 234 = .ok (.invokestatic 243, 3) := by decide +kernel
theorem dX8_hand_237 : decode cX8_hand 237 = .ok (.ireturn, 1) := by decide +kernel
theorem dX8_seed_0 : decode cX8_seed 0 = .ok (.aload_n 0, 1) := by decide +kernel
theorem dX8_seed_1 : decode cX8_seed 1 = .ok (.getfield 7, 3) := by decide +kernel
theorem dX8_seed_4 : decode cX8_seed 4 = .ok (.bipush 10, 2) := by decide +kernel
theorem dX8_seed_6 : decode cX8_seed 6 = .ok (.iaload, 1) := by decide +kernel
theorem dX8_seed_7 : decode cX8_seed 7 = .ok (.istore_n 2, 1) := by decide +kernel
theorem dX8_seed_8 : decode cX8_seed 8 = .ok (.aload_n 0, 1) := by decide +kernel
theorem dX8_seed_9 : decode cX8_seed 9 = .ok (.getfield 7, 3) := by decide +kernel
theorem dX8_seed_12 : decode cX8_seed 12 = .ok (.bipush 10, 2) := by decide +kernel
theorem dX8_seed_14 : decode cX8_seed 14 = .ok (.iload_n 1, 1) := by decide +kernel
theorem dX8_seed_15 : decode cX8_seed 15 = .ok (.iastore, 1) := by decide +kernel
theorem dX8_seed_16 : decode cX8_seed 16 = .ok (.iload_n 2, 1) := by decide +kernel
theorem dX8_seed_17 : decode cX8_seed 17 = .ok (.ireturn, 1) := by decide +kernel
theorem dX8_ran_0 : decode cX8_ran 0 = .ok (.aload_n 0, 1) := by decide +kernel
theorem dX8_ran_1 : decode cX8_ran 1 = .ok (.getfield 256, 3) := by decide +kernel
theorem dX8_ran_4 : decode cX8_ran 4 = .ok (.bipush 40, 2) := by decide +kernel
theorem dX8_ran_6 : decode cX8_ran 6 = .ok (.if_icmp .ge 23, 3) := by decide +kernel
theorem dX8_ran_9 : decode cX8_ran 9 = .ok (.aload_n 0, 1) := by decide +kernel
theorem dX8_ran_10 : decode cX8_ran 10 = .ok (.getfield 34, 3) := by decide +kernel
theorem dX8_ran_13 : decode cX8_ran 13 = .ok (.aload_n 0, 1) := by decide +kernel
theorem dX8_ran_14 : decode cX8_ran 14 = .ok (.getfield 256, 3) := by decide +kernel
theorem dX8_ran_17 : decode cX8_ran 17 = .ok (.iload_n 1, 1) := by decide +kernel
theorem dX8_ran_18 : decode cX8_ran 18 = .ok (.iastore, 1) := by decide +kernel
theorem dX8_ran_19 : decode cX8_ran 19 = .ok (.aload_n 0, 1) := by decide +kernel
theorem dX8_ran_20 : decode cX8_ran 20 = .ok (.dup, 1) := by decide +kernel
theorem dX8_ran_21 : decode cX8_ran 21 = .ok (.getfield 256, 3) := by decide +kernel
theorem dX8_ran_24 : decode cX8_ran 24 = .ok (.iconst 1, 1) := by decide +kernel
theorem dX8_ran_25 : decode cX8_ran 25 = .ok (.iadd, 1) := by decide +kernel
theorem dX8_ran_26 : decode cX8_ran 26 = .ok (.putfield 256, 3) := by decide +kernel
theorem dX8_ran_29 : decode cX8_ran 29 = .ok (.return_, 1) := by decide +kernel
theorem dX8_own_0 : decode cX8_own 0 = .ok (.aload_n 0, 1) := by decide +kernel
theorem dX8_own_1 : decode cX8_own 1 = .ok (.aload_n 0, 1) := by decide +kernel
theorem dX8_own_2 : decode cX8_own 2 = .ok (.getfield 259, 3) := by decide +kernel
theorem dX8_own_5 : decode cX8_own 5 = .ok (.iconst 0, 1) := by decide +kernel
theorem dX8_own_6 : decode cX8_own 6 = .ok (.invokevirtual 163, 3) := by decide +kernel
theorem dX8_own_9 : decode cX8_own 9 = .ok (.ireturn, 1) := by decide +kernel
theorem dX8_cut_0 : decode cX8_cut 0 = .ok (.iload_n 1, 1) := by decide +kernel
theorem dX8_cut_1 : decode cX8_cut 1 = .ok (.lookupswitch 58 #[(0, 27), (2, 40)], 27) := by decide +kernel
theorem dX8_cut_28 : decode cX8_cut 28 = .ok (.aload_n 0, 1) := by decide +kernel
theorem dX8_cut_29 : decode cX8_cut 29 = .ok (.bipush 10, 2) := by decide +kernel
theorem dX8_cut_31 : decode cX8_cut 31 = .ok (.invokevirtual 262, 3) := by decide +kernel
theorem dX8_cut_34 : decode cX8_cut 34 = .ok (.iload_n 2, 1) := by decide +kernel
theorem dX8_cut_35 : decode cX8_cut 35 = .ok (.aload_n 0, 1) := by decide +kernel
theorem dX8_cut_36 : decode cX8_cut 36 = .ok (.getfield 259, 3) := by decide +kernel
theorem dX8_cut_39 : decode cX8_cut 39 = .ok (.iadd, 1) := by decide +kernel
theorem dX8_cut_40 : decode cX8_cut 40 = .ok (.ireturn, 1) := by decide +kernel
theorem dX8_cut_41 : decode cX8_cut 41 = .ok (.aload_n 0, 1) := by decide +kernel
theorem dX8_cut_42 : decode cX8_cut 42 = .ok (.bipush 30, 2) := by decide +kernel
theorem dX8_cut_44 : decode cX8_cut 44 = .ok (.invokevirtual 262, 3) := by decide +kernel
theorem dX8_cut_47 : decode cX8_cut 47 = .ok (.aload_n 0, 1) := by decide +kernel
theorem dX8_cut_48 : decode cX8_cut 48 = .ok (.iconst 2, 1) := by decide +kernel
theorem dX8_cut_49 : decode cX8_cut 49 = .ok (.invokestatic 191, 3) := by decide +kernel
theorem dX8_cut_52 : decode cX8_cut 52 = .ok (.iload_n 2, 1) := by decide +kernel
theorem dX8_cut_53 : decode cX8_cut 53 = .ok (.invokevirtual 265, 3) := by decide +kernel
theorem dX8_cut_56 : decode cX8_cut 56 = .ok (.iconst 3, 1) := by decide +kernel
theorem dX8_cut_57 : decode cX8_cut 57 = .ok (.imul, 1) := by decide +kernel
theorem dX8_cut_58 : decode cX8_cut 58 = .ok (.ireturn, 1) := by decide +kernel
theorem dX8_cut_59 : decode cX8_cut 59 = .ok (.aload_n 0, 1) := by decide +kernel
theorem dX8_cut_60 : decode cX8_cut 60 = .ok (.iload_n 1, 1) := by decide +kernel
theorem dX8_cut_61 : decode cX8_cut 61 = .ok (.invokestatic 191, 3) := by decide +kernel
theorem dX8_cut_64 : decode cX8_cut 64 = .ok (.iload_n 2, 1) := by decide +kernel
theorem dX8_cut_65 : decode cX8_cut 65 = .ok (.invokevirtual 265, 3) := by decide +kernel
theorem dX8_cut_68 : decode cX8_cut 68 = .ok (.ireturn, 1) := by decide +kernel
theorem dX8_rings_0 : decode cX8_rings 0 = .ok (.iload_n 1, 1) := by decide +kernel
theorem dX8_rings_1 : decode cX8_rings 1 = .ok (.tableswitch 99 0 4 #[35, 53, 99, 99, 81], 35) := by decide +kernel
theorem dX8_rings_36 : decode cX8_rings 36 = .ok (.aload_n 0, 1) := by decide +kernel
theorem dX8_rings_37 : decode cX8_rings 37 = .ok (.bipush 11, 2) := by decide +kernel
theorem dX8_rings_39 : decode cX8_rings 39 = .ok (.invokevirtual 262, 3) := by decide +kernel
theorem dX8_rings_42 : decode cX8_rings 42 = .ok (.aload_n 0, 1) := by decide +kernel
theorem dX8_rings_43 : decode cX8_rings 43 = .ok (.aload_n 0, 1) := by decide +kernel
theorem dX8_rings_44 : decode cX8_rings 44 = .ok (.invokevirtual 268, 3) := by decide +kernel
theorem dX8_rings_47 : decode cX8_rings 47 = .ok (.iload_n 2, 1) := by decide +kernel
theorem dX8_rings_48 : decode cX8_rings 48 = .ok (.invokevirtual 265, 3) := by decide +kernel
theorem dX8_rings_51 : decode cX8_rings 51 = .ok (.iconst 2, 1) := by decide +kernel
theorem dX8_rings_52 : decode cX8_rings 52 = .ok (.imul, 1) := by decide +kernel
theorem dX8_rings_53 : decode cX8_rings 53 = .ok (.ireturn, 1) := by decide +kernel
theorem dX8_rings_54 : decode cX8_rings 54 = .ok (.aload_n 0, 1) := by decide +kernel
theorem dX8_rings_55 : decode cX8_rings 55 = .ok (.bipush 20, 2) := by decide +kernel
theorem dX8_rings_57 : decode cX8_rings 57 = .ok (.invokevirtual 262, 3) := by decide +kernel
theorem dX8_rings_60 : decode cX8_rings 60 = .ok (.aload_n 0, 1) := by decide +kernel
theorem dX8_rings_61 : decode cX8_rings 61 = .ok (.iconst 1, 1) := by decide +kernel
theorem dX8_rings_62 : decode cX8_rings 62 = .ok (.invokestatic 191, 3) := by decide +kernel
theorem dX8_rings_65 : decode cX8_rings 65 = .ok (.iload_n 2, 1) := by decide +kernel
theorem dX8_rings_66 : decode cX8_rings 66 = .ok (.invokevirtual 271, 3) := by decide +kernel
theorem dX8_rings_69 : decode cX8_rings 69 = .ok (.istore_n 3, 1) := by decide +kernel
theorem dX8_rings_70 : decode cX8_rings 70 = .ok (.iload_n 3, 1) := by decide +kernel
theorem dX8_rings_71 : decode cX8_rings 71 = .ok (.aload_n 0, 1) := by decide +kernel
theorem dX8_rings_72 : decode cX8_rings 72 = .ok (.aload_n 0, 1) := by decide +kernel
theorem dX8_rings_73 : decode cX8_rings 73 = .ok (.invokevirtual 268, 3) := by decide +kernel
theorem dX8_rings_76 : decode cX8_rings 76 = .ok (.iconst 1, 1) := by decide +kernel
theorem dX8_rings_77 : decode cX8_rings 77 = .ok (.invokevirtual 274, 3) := by decide +kernel
theorem dX8_rings_80 : decode cX8_rings 80 = .ok (.isub, 1) := by decide +kernel
theorem dX8_rings_81 : decode cX8_rings 81 = .ok (.ireturn, 1) := by decide +kernel
theorem dX8_rings_82 : decode cX8_rings 82 = .ok (.aload_n 0, 1) := by decide +kernel
theorem dX8_rings_83 : decode cX8_rings 83 = .ok (.bipush 50, 2) := by decide +kernel
theorem dX8_rings_85 : decode cX8_rings 85 = .ok (.invokevirtual 262, 3) := by decide +kernel
theorem dX8_rings_88 : decode cX8_rings 88 = .ok (.aload_n 0, 1) := by decide +kernel
theorem dX8_rings_89 : decode cX8_rings 89 = .ok (.iconst 4, 1) := by decide +kernel
theorem dX8_rings_90 : decode cX8_rings 90 = .ok (.invokestatic 191, 3) := by decide +kernel
theorem dX8_rings_93 : decode cX8_rings 93 = .ok (.iload_n 2, 1) := by decide +kernel
theorem dX8_rings_94 : decode cX8_rings 94 = .ok (.iconst 1, 1) := by decide +kernel
theorem dX8_rings_95 : decode cX8_rings 95 = .ok (.iadd, 1) := by decide +kernel
theorem dX8_rings_96 : decode cX8_rings 96 = .ok (.invokevirtual 271, 3) := by decide +kernel
theorem dX8_rings_99 : decode cX8_rings 99 = .ok (.ireturn, 1) := by decide +kernel
theorem dX8_rings_100 : decode cX8_rings 100 = .ok (.aload_n 0, 1) := by decide +kernel
theorem dX8_rings_101 : decode cX8_rings 101 = .ok (.iload_n 1, 1) := by decide +kernel
theorem dX8_rings_102 : decode cX8_rings 102 = .ok (.invokestatic 191, 3) := by decide +kernel
theorem dX8_rings_105 : decode cX8_rings 105 = .ok (.iload_n 2, 1) := by decide +kernel
theorem dX8_rings_106 : decode cX8_rings 106 = .ok (.invokevirtual 271, 3) := by decide +kernel
theorem dX8_rings_109 : decode cX8_rings 109 = .ok (.ireturn, 1) := by decide +kernel
theorem dX8_grind_0 : decode cX8_grind 0 = .ok (.iload_n 1, 1) := by decide +kernel
theorem dX8_grind_1 : decode cX8_grind 1 = .ok (.lookupswitch 92 #[(0, 35), (3, 53), (6, 70)], 35) := by decide +kernel
theorem dX8_grind_36 : decode cX8_grind 36 = .ok (.aload_n 0, 1) := by decide +kernel
theorem dX8_grind_37 : decode cX8_grind 37 = .ok (.bipush 12, 2) := by decide +kernel
theorem dX8_grind_39 : decode cX8_grind 39 = .ok (.invokevirtual 262, 3) := by decide +kernel
theorem dX8_grind_42 : decode cX8_grind 42 = .ok (.iload_n 2, 1) := by decide +kernel
theorem dX8_grind_43 : decode cX8_grind 43 = .ok (.aload_n 0, 1) := by decide +kernel
theorem dX8_grind_44 : decode cX8_grind 44 = .ok (.aload_n 0, 1) := by decide +kernel
theorem dX8_grind_45 : decode cX8_grind 45 = .ok (.getfield 259, 3) := by decide +kernel
theorem dX8_grind_48 : decode cX8_grind 48 = .ok (.iconst 1, 1) := by decide +kernel
theorem dX8_grind_49 : decode cX8_grind 49 = .ok (.invokevirtual 163, 3) := by decide +kernel
theorem dX8_grind_52 : decode cX8_grind 52 = .ok (.isub, 1) := by decide +kernel
theorem dX8_grind_53 : decode cX8_grind 53 = .ok (.ireturn, 1) := by decide +kernel
theorem dX8_grind_54 : decode cX8_grind 54 = .ok (.aload_n 0, 1) := by decide +kernel
theorem dX8_grind_55 : decode cX8_grind 55 = .ok (.bipush 40, 2) := by decide +kernel
theorem dX8_grind_57 : decode cX8_grind 57 = .ok (.invokevirtual 262, 3) := by decide +kernel
theorem dX8_grind_60 : decode cX8_grind 60 = .ok (.aload_n 0, 1) := by decide +kernel
theorem dX8_grind_61 : decode cX8_grind 61 = .ok (.iconst 3, 1) := by decide +kernel
theorem dX8_grind_62 : decode cX8_grind 62 = .ok (.invokestatic 191, 3) := by decide +kernel
theorem dX8_grind_65 : decode cX8_grind 65 = .ok (.iload_n 2, 1) := by decide +kernel
theorem dX8_grind_66 : decode cX8_grind 66 = .ok (.invokevirtual 274, 3) := by decide +kernel
theorem dX8_grind_69 : decode cX8_grind 69 = .ok (.ineg, 1) := by decide +kernel
theorem dX8_grind_70 : decode cX8_grind 70 = .ok (.ireturn, 1) := by decide +kernel
theorem dX8_grind_71 : decode cX8_grind 71 = .ok (.aload_n 0, 1) := by decide +kernel
theorem dX8_grind_72 : decode cX8_grind 72 = .ok (.bipush 70, 2) := by decide +kernel
theorem dX8_grind_74 : decode cX8_grind 74 = .ok (.invokevirtual 262, 3) := by decide +kernel
theorem dX8_grind_77 : decode cX8_grind 77 = .ok (.aload_n 0, 1) := by decide +kernel
theorem dX8_grind_78 : decode cX8_grind 78 = .ok (.bipush 6, 2) := by decide +kernel
theorem dX8_grind_80 : decode cX8_grind 80 = .ok (.invokestatic 191, 3) := by decide +kernel
theorem dX8_grind_83 : decode cX8_grind 83 = .ok (.iload_n 2, 1) := by decide +kernel
theorem dX8_grind_84 : decode cX8_grind 84 = .ok (.invokevirtual 274, 3) := by decide +kernel
theorem dX8_grind_87 : decode cX8_grind 87 = .ok (.aload_n 0, 1) := by decide +kernel
theorem dX8_grind_88 : decode cX8_grind 88 = .ok (.getfield 259, 3) := by decide +kernel
theorem dX8_grind_91 : decode cX8_grind 91 = .ok (.ixor, 1) := by decide +kernel
theorem dX8_grind_92 : decode cX8_grind 92 = .ok (.ireturn, 1) := by decide +kernel
theorem dX8_grind_93 : decode cX8_grind 93 = .ok (.aload_n 0, 1) := by decide +kernel
theorem dX8_grind_94 : decode cX8_grind 94 = .ok (.iload_n 1, 1) := by decide +kernel
theorem dX8_grind_95 : decode cX8_grind 95 = .ok (.invokestatic 191, 3) := by decide +kernel
theorem dX8_grind_98 : decode cX8_grind 98 = .ok (.iload_n 2, 1) := by decide +kernel
theorem dX8_grind_99 : decode cX8_grind 99 = .ok (.invokevirtual 274, 3) := by decide +kernel
theorem dX8_grind_102 : decode cX8_grind 102 = .ok (.ireturn, 1) := by decide +kernel
theorem dX8_tells_0 : decode cX8_tells 0 = .ok (.iload_n 1, 1) := by decide +kernel
theorem dX8_tells_1 : decode cX8_tells 1 = .ok (.lookupswitch 120 #[(0, 35), (5, 63), (6, 91)], 35) := by decide +kernel
theorem dX8_tells_36 : decode cX8_tells 36 = .ok (.aload_n 0, 1) := by decide +kernel
theorem dX8_tells_37 : decode cX8_tells 37 = .ok (.bipush 13, 2) := by decide +kernel
theorem dX8_tells_39 : decode cX8_tells 39 = .ok (.invokevirtual 262, 3) := by decide +kernel
theorem dX8_tells_42 : decode cX8_tells 42 = .ok (.aload_n 0, 1) := by decide +kernel
theorem dX8_tells_43 : decode cX8_tells 43 = .ok (.aload_n 0, 1) := by decide +kernel
theorem dX8_tells_44 : decode cX8_tells 44 = .ok (.invokevirtual 268, 3) := by decide +kernel
theorem dX8_tells_47 : decode cX8_tells 47 = .ok (.iload_n 2, 1) := by decide +kernel
theorem dX8_tells_48 : decode cX8_tells 48 = .ok (.invokevirtual 271, 3) := by decide +kernel
theorem dX8_tells_51 : decode cX8_tells 51 = .ok (.istore_n 3, 1) := by decide +kernel
theorem dX8_tells_52 : decode cX8_tells 52 = .ok (.iload_n 3, 1) := by decide +kernel
theorem dX8_tells_53 : decode cX8_tells 53 = .ok (.aload_n 0, 1) := by decide +kernel
theorem dX8_tells_54 : decode cX8_tells 54 = .ok (.aload_n 0, 1) := by decide +kernel
theorem dX8_tells_55 : decode cX8_tells 55 = .ok (.invokevirtual 268, 3) := by decide +kernel
theorem dX8_tells_58 : decode cX8_tells 58 = .ok (.iload_n 2, 1) := by decide +kernel
theorem dX8_tells_59 : decode cX8_tells 59 = .ok (.invokevirtual 274, 3) := by decide +kernel
theorem dX8_tells_62 : decode cX8_tells 62 = .ok (.ixor, 1) := by decide +kernel
theorem dX8_tells_63 : decode cX8_tells 63 = .ok (.ireturn, 1) := by decide +kernel
theorem dX8_tells_64 : decode cX8_tells 64 = .ok (.aload_n 0, 1) := by decide +kernel
theorem dX8_tells_65 : decode cX8_tells 65 = .ok (.bipush 60, 2) := by decide +kernel
theorem dX8_tells_67 : decode cX8_tells 67 = .ok (.invokevirtual 262, 3) := by decide +kernel
theorem dX8_tells_70 : decode cX8_tells 70 = .ok (.aload_n 0, 1) := by decide +kernel
theorem dX8_tells_71 : decode cX8_tells 71 = .ok (.iconst 5, 1) := by decide +kernel
theorem dX8_tells_72 : decode cX8_tells 72 = .ok (.invokestatic 191, 3) := by decide +kernel
theorem dX8_tells_75 : decode cX8_tells 75 = .ok (.iload_n 2, 1) := by decide +kernel
theorem dX8_tells_76 : decode cX8_tells 76 = .ok (.invokevirtual 277, 3) := by decide +kernel
theorem dX8_tells_79 : decode cX8_tells 79 = .ok (.istore_n 3, 1) := by decide +kernel
theorem dX8_tells_80 : decode cX8_tells 80 = .ok (.iload_n 3, 1) := by decide +kernel
theorem dX8_tells_81 : decode cX8_tells 81 = .ok (.aload_n 0, 1) := by decide +kernel
theorem dX8_tells_82 : decode cX8_tells 82 = .ok (.aload_n 0, 1) := by decide +kernel
theorem dX8_tells_83 : decode cX8_tells 83 = .ok (.invokevirtual 268, 3) := by decide +kernel
theorem dX8_tells_86 : decode cX8_tells 86 = .ok (.iconst 2, 1) := by decide +kernel
theorem dX8_tells_87 : decode cX8_tells 87 = .ok (.invokevirtual 265, 3) := by decide +kernel
theorem dX8_tells_90 : decode cX8_tells 90 = .ok (.isub, 1) := by decide +kernel
theorem dX8_tells_91 : decode cX8_tells 91 = .ok (.ireturn, 1) := by decide +kernel
theorem dX8_tells_92 : decode cX8_tells 92 = .ok (.aload_n 0, 1) := by decide +kernel
theorem dX8_tells_93 : decode cX8_tells 93 = .ok (.bipush 71, 2) := by decide +kernel
theorem dX8_tells_95 : decode cX8_tells 95 = .ok (.invokevirtual 262, 3) := by decide +kernel
theorem dX8_tells_98 : decode cX8_tells 98 = .ok (.aload_n 0, 1) := by decide +kernel
theorem dX8_tells_99 : decode cX8_tells 99 = .ok (.aload_n 0, 1) := by decide +kernel
theorem dX8_tells_100 : decode cX8_tells 100 = .ok (.invokevirtual 268, 3) := by decide +kernel
theorem dX8_tells_103 : decode cX8_tells 103 = .ok (.iload_n 2, 1) := by decide +kernel
theorem dX8_tells_104 : decode cX8_tells 104 = .ok (.invokevirtual 271, 3) := by decide +kernel
theorem dX8_tells_107 : decode cX8_tells 107 = .ok (.istore_n 3, 1) := by decide +kernel
theorem dX8_tells_108 : decode cX8_tells 108 = .ok (.iload_n 3, 1) := by decide +kernel
theorem dX8_tells_109 : decode cX8_tells 109 = .ok (.aload_n 0, 1) := by decide +kernel
theorem dX8_tells_110 : decode cX8_tells 110 = .ok (.bipush 6, 2) := by decide +kernel
theorem dX8_tells_112 : decode cX8_tells 112 = .ok (.invokestatic 191, 3) := by decide +kernel
theorem dX8_tells_115 : decode cX8_tells 115 = .ok (.iload_n 2, 1) := by decide +kernel
theorem dX8_tells_116 : decode cX8_tells 116 = .ok (.invokevirtual 277, 3) := by decide +kernel
theorem dX8_tells_119 : decode cX8_tells 119 = .ok (.isub, 1) := by decide +kernel
theorem dX8_tells_120 : decode cX8_tells 120 = .ok (.ireturn, 1) := by decide +kernel
theorem dX8_tells_121 : decode cX8_tells 121 = .ok (.aload_n 0, 1) := by decide +kernel
theorem dX8_tells_122 : decode cX8_tells 122 = .ok (.iload_n 1, 1) := by decide +kernel
theorem dX8_tells_123 : decode cX8_tells 123 = .ok (.invokestatic 191, 3) := by decide +kernel
theorem dX8_tells_126 : decode cX8_tells 126 = .ok (.iload_n 2, 1) := by decide +kernel
theorem dX8_tells_127 : decode cX8_tells 127 = .ok (.invokevirtual 277, 3) := by decide +kernel
theorem dX8_tells_130 : decode cX8_tells 130 = .ok (.ireturn, 1) := by decide +kernel
theorem dX8_voice_0 : decode cX8_voice 0 = .ok (.aload_n 0, 1) := by decide +kernel
theorem dX8_voice_1 : decode cX8_voice 1 = .ok (.iload_n 1, 1) := by decide +kernel
theorem dX8_voice_2 : decode cX8_voice 2 = .ok (.invokevirtual 178, 3) := by decide +kernel
theorem dX8_voice_5 : decode cX8_voice 5 = .ok (.ifCond .eq 15, 3) := by decide +kernel
theorem dX8_voice_8 : decode cX8_voice 8 = .ok (.iload_n 2, 1) := by decide +kernel
theorem dX8_voice_9 : decode cX8_voice 9 = .ok (.i2l, 1) := by decide +kernel
theorem dX8_voice_10 : decode cX8_voice 10 = .ok (.lconst 0, 1) := by decide +kernel
theorem dX8_voice_11 : decode cX8_voice 11 = .ok (.ldc2_w 194, 3) := by decide +kernel
theorem dX8_voice_14 : decode cX8_voice 14 = .ok (.invokestatic 50, 3) := by decide +kernel
theorem dX8_voice_17 : decode cX8_voice 17 = .ok (.ifCond .ne 9, 3) := by decide +kernel
theorem dX8_voice_20 : decode cX8_voice 20 = .ok (.aload_n 0, 1) := by decide +kernel
theorem dX8_voice_21 : decode cX8_voice 21 = .ok (.iconst 1, 1) := by decide +kernel
theorem dX8_voice_22 : decode cX8_voice 22 = .ok (.invokevirtual 127, 3) := by decide +kernel
theorem dX8_voice_25 : decode cX8_voice 25 = .ok (.ireturn, 1) := by decide +kernel
theorem dX8_voice_26 : decode cX8_voice 26 = .ok (.aload_n 0, 1) := by decide +kernel
theorem dX8_voice_27 : decode cX8_voice 27 = .ok (.iconst 0, 1) := by decide +kernel
theorem dX8_voice_28 : decode cX8_voice 28 = .ok (.putfield 256, 3) := by decide +kernel
theorem dX8_voice_31 : decode cX8_voice 31 = .ok (.aload_n 0, 1) := by decide +kernel
theorem dX8_voice_32 : decode cX8_voice 32 = .ok (.iload_n 1, 1) := by decide +kernel
theorem dX8_voice_33 : decode cX8_voice 33 = .ok (.putfield 259, 3) := by decide +kernel
theorem dX8_voice_36 : decode cX8_voice 36 = .ok (.aload_n 0, 1) := by decide +kernel
theorem dX8_voice_37 : decode cX8_voice 37 = .ok (.invokevirtual 268, 3) := by decide +kernel
theorem dX8_voice_40 : decode cX8_voice 40 = .ok (.istore 4, 2) := by decide +kernel
theorem dX8_voice_42 : decode cX8_voice 42 = .ok (.iload_n 2, 1) := by decide +kernel
theorem dX8_voice_43 : decode cX8_voice 43 = .ok (.ifCond .ne 13, 3) := by decide +kernel
theorem dX8_voice_46 : decode cX8_voice 46 = .ok (.aload_n 0, 1) := by decide +kernel
theorem dX8_voice_47 : decode cX8_voice 47 = .ok (.iload 4, 2) := by decide +kernel
theorem dX8_voice_49 : decode cX8_voice 49 = .ok (.iload_n 3, 1) := by decide +kernel
theorem dX8_voice_50 : decode cX8_voice 50 = .ok (.invokevirtual 265, 3) := by decide +kernel
theorem dX8_voice_53 : decode cX8_voice 53 = .ok (.goto 40, 3) := by decide +kernel
theorem dX8_voice_56 : decode cX8_voice 56 = .ok (.iload_n 2, 1) := by decide +kernel
theorem dX8_voice_57 : decode cX8_voice 57 = .ok (.iconst 1, 1) := by decide +kernel
theorem dX8_voice_58 : decode cX8_voice 58 = .ok (.if_icmp .ne 13, 3) := by decide +kernel
theorem dX8_voice_61 : decode cX8_voice 61 = .ok (.aload_n 0, 1) := by decide +kernel
theorem dX8_voice_62 : decode cX8_voice 62 = .ok (.iload 4, 2) := by decide +kernel
theorem dX8_voice_64 : decode cX8_voice 64 = .ok (.iload_n 3, 1) := by decide +kernel
theorem dX8_voice_65 : decode cX8_voice 65 = .ok (.invokevirtual 271, 3) := by decide +kernel
theorem dX8_voice_68 : decode cX8_voice 68 = .ok (.goto 25, 3) := by decide +kernel
theorem dX8_voice_71 : decode cX8_voice 71 = .ok (.iload_n 2, 1) := by decide +kernel
theorem dX8_voice_72 : decode cX8_voice 72 = .ok (.iconst 2, 1) := by decide +kernel
theorem dX8_voice_73 : decode cX8_voice 73 = .ok (.if_icmp .ne 13, 3) := by decide +kernel
theorem dX8_voice_76 : decode cX8_voice 76 = .ok (.aload_n 0, 1) := by decide +kernel
theorem dX8_voice_77 : decode cX8_voice 77 = .ok (.iload 4, 2) := by decide +kernel
theorem dX8_voice_79 : decode cX8_voice 79 = .ok (.iload_n 3, 1) := by decide +kernel
theorem dX8_voice_80 : decode cX8_voice 80 = .ok (.invokevirtual 274, 3) := by decide +kernel
theorem dX8_voice_83 : decode cX8_voice 83 = .ok (.goto 10, 3) := by decide +kernel
theorem dX8_voice_86 : decode cX8_voice 86 = .ok (.aload_n 0, 1) := by decide +kernel
theorem dX8_voice_87 : decode cX8_voice 87 = .ok (.iload 4, 2) := by decide +kernel
theorem dX8_voice_89 : decode cX8_voice 89 = .ok (.iload_n 3, 1) := by decide +kernel
theorem dX8_voice_90 : decode cX8_voice 90 = .ok (.invokevirtual 277, 3) := by decide +kernel
theorem dX8_voice_93 : decode cX8_voice 93 = .ok (.ireturn, 1) := by decide +kernel
theorem dX8_trace_0 : decode cX8_trace 0 = .ok (.iload_n 1, 1) := by decide +kernel
theorem dX8_trace_1 : decode cX8_trace 1 = .ok (.i2l, 1) := by decide +kernel
theorem dX8_trace_2 : decode cX8_trace 2 = .ok (.lconst 0, 1) := by decide +kernel
theorem dX8_trace_3 : decode cX8_trace 3 = .ok (.aload_n 0, 1) := by decide +kernel
theorem dX8_trace_4 : decode cX8_trace 4 = .ok (.getfield 256, 3) := by decide +kernel
theorem dX8_trace_7 : decode cX8_trace 7 = .ok (.iconst 1, 1) := by decide +kernel
theorem dX8_trace_8 : decode cX8_trace 8 = .ok (.isub, 1) := by decide +kernel
theorem dX8_trace_9 : decode cX8_trace 9 = .ok (.i2l, 1) := by decide +kernel
theorem dX8_trace_10 : decode cX8_trace 10 = .ok (.invokestatic 50, 3) := by decide +kernel
theorem dX8_trace_13 : decode cX8_trace 13 = .ok (.ifCond .eq 12, 3) := by decide +kernel
theorem dX8_trace_16 : decode cX8_trace 16 = .ok (.aload_n 0, 1) := by decide +kernel
theorem dX8_trace_17 : decode cX8_trace 17 = .ok (.getfield 34, 3) := by decide +kernel
theorem dX8_trace_20 : decode cX8_trace 20 = .ok (.iload_n 1, 1) := by decide +kernel
theorem dX8_trace_21 : decode cX8_trace 21 = .ok (.iaload, 1) := by decide +kernel
theorem dX8_trace_22 : decode cX8_trace 22 = .ok (.goto 8, 3) := by decide +kernel
theorem dX8_trace_25 : decode cX8_trace 25 = .ok (.aload_n 0, 1) := by decide +kernel
theorem dX8_trace_26 : decode cX8_trace 26 = .ok (.iconst 2, 1) := by decide +kernel
theorem dX8_trace_27 : decode cX8_trace 27 = .ok (.invokevirtual 127, 3) := by decide +kernel
theorem dX8_trace_30 : decode cX8_trace 30 = .ok (.ireturn, 1) := by decide +kernel
theorem dX8_isSheet_0 : decode cX8_isSheet 0 = .ok (.iload_n 0, 1) := by decide +kernel
theorem dX8_isSheet_1 : decode cX8_isSheet 1 = .ok (.i2l, 1) := by decide +kernel
theorem dX8_isSheet_2 : decode cX8_isSheet 2 = .ok (.lconst 0, 1) := by decide +kernel
theorem dX8_isSheet_3 : decode cX8_isSheet 3 = .ok (.ldc2_w 194, 3) := by decide +kernel
theorem dX8_isSheet_6 : decode cX8_isSheet 6 = .ok (.invokestatic 50, 3) := by decide +kernel
theorem dX8_isSheet_9 : decode cX8_isSheet 9 = .ok (.ireturn, 1) := by decide +kernel
theorem dX8_sheet_0 : decode cX8_sheet 0 = .ok (.iload_n 1, 1) := by decide +kernel
theorem dX8_sheet_1 : decode cX8_sheet 1 = .ok (.invokestatic 280, 3) := by decide +kernel
theorem dX8_sheet_4 : decode cX8_sheet 4 = .ok (.ifCond .eq 25, 3) := by decide +kernel
theorem dX8_sheet_7 : decode cX8_sheet 7 = .ok (.iload_n 2, 1) := by decide +kernel
theorem dX8_sheet_8 : decode cX8_sheet 8 = .ok (.ifCond .eq 27, 3) := by decide +kernel
theorem dX8_sheet_11 : decode cX8_sheet 11 = .ok (.iload_n 2, 1) := by decide +kernel
theorem dX8_sheet_12 : decode cX8_sheet 12 = .ok (.bipush 8, 2) := by decide +kernel
theorem dX8_sheet_14 : decode cX8_sheet 14 = .ok (.if_icmp .eq 21, 3) := by decide +kernel
theorem dX8_sheet_17 : decode cX8_sheet 17 = .ok (.iload_n 2, 1) := by decide +kernel
theorem dX8_sheet_18 : decode cX8_sheet 18 = .ok (.bipush 16, 2) := by decide +kernel
theorem dX8_sheet_20 : decode cX8_sheet 20 = .ok (.if_icmp .eq 15, 3) := by decide +kernel
theorem dX8_sheet_23 : decode cX8_sheet 23 = .ok (.iload_n 2, 1) := by decide +kernel
theorem dX8_sheet_24 : decode cX8_sheet 24 = .ok (.bipush 32, 2) := by decide +kernel
theorem dX8_sheet_26 : decode cX8_sheet 26 = .ok (.if_icmp .eq 9, 3) := by decide +kernel
theorem dX8_sheet_29 : decode cX8_sheet 29 = .ok (.aload_n 0, 1) := by decide +kernel
theorem dX8_sheet_30 : decode cX8_sheet 30 = .ok (.iconst 1, 1) := by decide +kernel
theorem dX8_sheet_31 : decode cX8_sheet 31 = .ok (.invokevirtual 127, 3) := by decide +kernel
theorem dX8_sheet_34 : decode cX8_sheet 34 = .ok (.ireturn, 1) := by decide +kernel
theorem dX8_sheet_35 : decode cX8_sheet 35 = .ok (.iload_n 2, 1) := by decide +kernel
theorem dX8_sheet_36 : decode cX8_sheet 36 = .ok (.ifCond .eq 13, 3) := by decide +kernel
theorem dX8_sheet_39 : decode cX8_sheet 39 = .ok (.iload_n 3, 1) := by decide +kernel
theorem dX8_sheet_40 : decode cX8_sheet 40 = .ok (.ifCond .ge 9, 3) := by decide +kernel
theorem dX8_sheet_43 : decode cX8_sheet 43 = .ok (.aload_n 0, 1) := by decide +kernel
theorem dX8_sheet_44 : decode cX8_sheet 44 = .ok (.iconst 3, 1) := by decide +kernel
theorem dX8_sheet_45 : decode cX8_sheet 45 = .ok (.invokevirtual 127, 3) := by decide +kernel
theorem dX8_sheet_48 : decode cX8_sheet 48 = .ok (.ireturn, 1) := by decide +kernel
theorem dX8_sheet_49 : decode cX8_sheet 49 = .ok (.iload_n 2, 1) := by decide +kernel
theorem dX8_sheet_50 : decode cX8_sheet 50 = .ok (.ifCond .eq 15, 3) := by decide +kernel
theorem dX8_sheet_53 : decode cX8_sheet 53 = .ok (.iload_n 3, 1) := by decide +kernel
theorem dX8_sheet_54 : decode cX8_sheet 54 = .ok (.bipush 40, 2) := by decide +kernel
theorem dX8_sheet_56 : decode cX8_sheet 56 = .ok (.if_icmp .le 9, 3) := by decide +kernel
theorem dX8_sheet_59 : decode cX8_sheet 59 = .ok (.aload_n 0, 1) := by decide +kernel
theorem dX8_sheet_60 : decode cX8_sheet 60 = .ok (.iconst 1, 1) := by decide +kernel
theorem dX8_sheet_61 : decode cX8_sheet 61 = .ok (.invokevirtual 127, 3) := by decide +kernel
theorem dX8_sheet_64 : decode cX8_sheet 64 = .ok (.ireturn, 1) := by decide +kernel
theorem dX8_sheet_65 : decode cX8_sheet 65 = .ok (.aload_n 0, 1) := by decide +kernel
theorem dX8_sheet_66 : decode cX8_sheet 66 = .ok (.getfield 37, 3) := by decide +kernel
theorem dX8_sheet_69 : decode cX8_sheet 69 = .ok (.iload_n 1, 1) := by decide +kernel
theorem dX8_sheet_70 : decode cX8_sheet 70 = .ok (.iload_n 2, 1) := by decide +kernel
theorem dX8_sheet_71 : decode cX8_sheet 71 = .ok (.iastore, 1) := by decide +kernel
theorem dX8_sheet_72 : decode cX8_sheet 72 = .ok (.aload_n 0, 1) := by decide +kernel
theorem dX8_sheet_73 : decode cX8_sheet 73 = .ok (.getfield 40, 3) := by decide +kernel
theorem dX8_sheet_76 : decode cX8_sheet 76 = .ok (.iload_n 1, 1) := by decide +kernel
theorem dX8_sheet_77 : decode cX8_sheet 77 = .ok (.iload_n 2, 1) := by decide +kernel
theorem dX8_sheet_78 : decode cX8_sheet 78 = .ok (.ifCond .ne 7, 3) := by decide +kernel
theorem dX8_sheet_81 : decode cX8_sheet 81 = .ok (.iconst 0, 1) := by decide +kernel
theorem dX8_sheet_82 : decode cX8_sheet 82 = .ok (.goto 4, 3) := by decide +kernel
theorem dX8_sheet_85 : decode cX8_sheet 85 = .ok (.iload_n 3, 1) := by decide +kernel
theorem dX8_sheet_86 : decode cX8_sheet 86 = .ok (.iastore, 1) := by decide +kernel
theorem dX8_sheet_87 : decode cX8_sheet 87 = .ok (.iconst 0, 1) := by decide +kernel
theorem dX8_sheet_88 : decode cX8_sheet 88 = .ok (.istore 4, 2) := by decide +kernel
theorem dX8_sheet_90 : decode cX8_sheet 90 = .ok (.iload 4, 2) := by decide +kernel
theorem dX8_sheet_92 : decode cX8_sheet 92 = .ok (.bipush 40, 2) := by decide +kernel
theorem dX8_sheet_94 : decode cX8_sheet 94 = .ok (.if_icmp .ge 22, 3) := by decide +kernel
theorem dX8_sheet_97 : decode cX8_sheet 97 = .ok (.aload_n 0, 1) := by decide +kernel
theorem dX8_sheet_98 : decode cX8_sheet 98 = .ok (.getfield 43, 3) := by decide +kernel
theorem dX8_sheet_101 : decode cX8_sheet 101 = .ok (.bipush 40, 2) := by decide +kernel
theorem dX8_sheet_103 : decode cX8_sheet 103 = .ok (.iload_n 1, 1) := by decide +kernel
theorem dX8_sheet_104 : decode cX8_sheet 104 = .ok (.imul, 1) := by decide +kernel
theorem dX8_sheet_105 : decode cX8_sheet 105 = .ok (.iload 4, 2) := by decide +kernel
theorem dX8_sheet_107 : decode cX8_sheet 107 = .ok (.iadd, 1) := by decide +kernel
theorem dX8_sheet_108 : decode cX8_sheet 108 = .ok (.iconst 0, 1) := by decide +kernel
theorem dX8_sheet_109 : decode cX8_sheet 109 = .ok (.iastore, 1) := by decide +kernel
theorem dX8_sheet_110 : decode cX8_sheet 110 = .ok (.iinc 4 1, 3) := by decide +kernel
theorem dX8_sheet_113 : decode cX8_sheet 113 = .ok (.goto (-23), 3) := by decide +kernel
theorem dX8_sheet_116 : decode cX8_sheet 116 = .ok (.iconst 1, 1) := by decide +kernel
theorem dX8_sheet_117 : decode cX8_sheet 117 = .ok (.ireturn, 1) := by decide +kernel
theorem dX8_put_0 : decode cX8_put 0 = .ok (.iload_n 1, 1) := by decide +kernel
theorem dX8_put_1 : decode cX8_put 1 = .ok (.invokestatic 280, 3) := by decide +kernel
theorem dX8_put_4 : decode cX8_put 4 = .ok (.ifCond .ne 9, 3) := by decide +kernel
theorem dX8_put_7 : decode cX8_put 7 = .ok (.aload_n 0, 1) := by decide +kernel
theorem dX8_put_8 : decode cX8_put 8 = .ok (.iconst 1, 1) := by decide +kernel
theorem dX8_put_9 : decode cX8_put 9 = .ok (.invokevirtual 127, 3) := by decide +kernel
theorem dX8_put_12 : decode cX8_put 12 = .ok (.ireturn, 1) := by decide +kernel
theorem dX8_put_13 : decode cX8_put 13 = .ok (.aload_n 0, 1) := by decide +kernel
theorem dX8_put_14 : decode cX8_put 14 = .ok (.getfield 37, 3) := by decide +kernel
theorem dX8_put_17 : decode cX8_put 17 = .ok (.iload_n 1, 1) := by decide +kernel
theorem dX8_put_18 : decode cX8_put 18 = .ok (.iaload, 1) := by decide +kernel
theorem dX8_put_19 : decode cX8_put 19 = .ok (.ifCond .ne 9, 3) := by decide +kernel
theorem dX8_put_22 : decode cX8_put 22 = .ok (.aload_n 0, 1) := by decide +kernel
theorem dX8_put_23 : decode cX8_put 23 = .ok (.iconst 2, 1) := by decide +kernel
theorem dX8_put_24 : decode cX8_put 24 = .ok (.invokevirtual 127, 3) := by decide +kernel
theorem dX8_put_27 : decode cX8_put 27 = .ok (.ireturn, 1) := by decide +kernel
theorem dX8_put_28 : decode cX8_put 28 = .ok (.iload_n 2, 1) := by decide +kernel
theorem dX8_put_29 : decode cX8_put 29 = .ok (.i2l, 1) := by decide +kernel
theorem dX8_put_30 : decode cX8_put 30 = .ok (.lconst 0, 1) := by decide +kernel
theorem dX8_put_31 : decode cX8_put 31 = .ok (.aload_n 0, 1) := by decide +kernel
theorem dX8_put_32 : decode cX8_put 32 = .ok (.getfield 40, 3) := by decide +kernel
theorem dX8_put_35 : decode cX8_put 35 = .ok (.iload_n 1, 1) := by decide +kernel
theorem dX8_put_36 : decode cX8_put 36 = .ok (.iaload, 1) := by decide +kernel
theorem dX8_put_37 : decode cX8_put 37 = .ok (.iconst 1, 1) := by decide +kernel
theorem dX8_put_38 : decode cX8_put 38 = .ok (.isub, 1) := by decide +kernel
theorem dX8_put_39 : decode cX8_put 39 = .ok (.i2l, 1) := by decide +kernel
theorem dX8_put_40 : decode cX8_put 40 = .ok (.invokestatic 50, 3) := by decide +kernel
theorem dX8_put_43 : decode cX8_put 43 = .ok (.ifCond .ne 9, 3) := by decide +kernel
theorem dX8_put_46 : decode cX8_put 46 = .ok (.aload_n 0, 1) := by decide +kernel
theorem dX8_put_47 : decode cX8_put 47 = .ok (.iconst 1, 1) := by decide +kernel
theorem dX8_put_48 : decode cX8_put 48 = .ok (.invokevirtual 127, 3) := by decide +kernel
theorem dX8_put_51 : decode cX8_put 51 = .ok (.ireturn, 1) := by decide +kernel
theorem dX8_put_52 : decode cX8_put 52 = .ok (.aload_n 0, 1) := by decide +kernel
theorem dX8_put_53 : decode cX8_put 53 = .ok (.getfield 43, 3) := by decide +kernel
theorem dX8_put_56 : decode cX8_put 56 = .ok (.bipush 40, 2) := by decide +kernel
theorem dX8_put_58 : decode cX8_put 58 = .ok (.iload_n 1, 1) := by decide +kernel
theorem dX8_put_59 : decode cX8_put 59 = .ok (.imul, 1) := by decide +kernel
theorem dX8_put_60 : decode cX8_put 60 = .ok (.iload_n 2, 1) := by decide +kernel
theorem dX8_put_61 : decode cX8_put 61 = .ok (.iadd, 1) := by decide +kernel
theorem dX8_put_62 : decode cX8_put 62 = .ok (.aload_n 0, 1) := by decide +kernel
theorem dX8_put_63 : decode cX8_put 63 = .ok (.getfield 37, 3) := by decide +kernel
theorem dX8_put_66 : decode cX8_put 66 = .ok (.iload_n 1, 1) := by decide +kernel
theorem dX8_put_67 : decode cX8_put 67 = .ok (.iaload, 1) := by decide +kernel
theorem dX8_put_68 : decode cX8_put 68 = .ok (.bipush 8, 2) := by decide +kernel
theorem dX8_put_70 : decode cX8_put 70 = .ok (.if_icmp .ne 8, 3) := by decide +kernel
theorem dX8_put_73 : decode cX8_put 73 = .ok (.iload_n 3, 1) := by decide +kernel
theorem dX8_put_74 : decode cX8_put 74 = .ok (.i2b, 1) := by decide +kernel
theorem dX8_put_75 : decode cX8_put 75 = .ok (.goto 20, 3) := by decide +kernel
theorem dX8_put_78 : decode cX8_put 78 = .ok (.aload_n 0, 1) := by decide +kernel
theorem dX8_put_79 : decode cX8_put 79 = .ok (.getfield 37, 3) := by decide +kernel
theorem dX8_put_82 : decode cX8_put 82 = .ok (.iload_n 1, 1) := by decide +kernel
theorem dX8_put_83 : decode cX8_put 83 = .ok (.iaload, 1) := by decide +kernel
theorem dX8_put_84 : decode cX8_put 84 = .ok (.bipush 16, 2) := by decide +kernel
theorem dX8_put_86 : decode cX8_put 86 = .ok (.if_icmp .ne 8, 3) := by decide +kernel
theorem dX8_put_89 : decode cX8_put 89 = .ok (.iload_n 3, 1) := by decide +kernel
theorem dX8_put_90 : decode cX8_put 90 = .ok (.i2s, 1) := by decide +kernel
theorem dX8_put_91 : decode cX8_put 91 = .ok (.goto 4, 3) := by decide +kernel
theorem dX8_put_94 : decode cX8_put 94 = .ok (.iload_n 3, 1) := by decide +kernel
theorem dX8_put_95 : decode cX8_put 95 = .ok (.iastore, 1) := by decide +kernel
theorem dX8_put_96 : decode cX8_put 96 = .ok (.iconst 1, 1) := by decide +kernel
theorem dX8_put_97 : decode cX8_put 97 = .ok (.ireturn, 1) := by decide +kernel
theorem dX8_move_0 : decode cX8_move 0 = .ok (.iload_n 1, 1) := by decide +kernel
theorem dX8_move_1 : decode cX8_move 1 = .ok (.invokestatic 280, 3) := by decide +kernel
theorem dX8_move_4 : decode cX8_move 4 = .ok (.ifCond .eq 10, 3) := by decide +kernel
theorem dX8_move_7 : decode cX8_move 7 = .ok (.iload_n 3, 1) := by decide +kernel
theorem dX8_move_8 : decode cX8_move 8 = .ok (.invokestatic 280, 3) := by decide +kernel
theorem dX8_move_11 : decode cX8_move 11 = .ok (.ifCond .ne 9, 3) := by decide +kernel
theorem dX8_move_14 : decode cX8_move 14 = .ok (.aload_n 0, 1) := by decide +kernel
theorem dX8_move_15 : decode cX8_move 15 = .ok (.iconst 1, 1) := by decide +kernel
theorem dX8_move_16 : decode cX8_move 16 = .ok (.invokevirtual 127, 3) := by decide +kernel
theorem dX8_move_19 : decode cX8_move 19 = .ok (.ireturn, 1) := by decide +kernel
theorem dX8_move_20 : decode cX8_move 20 = .ok (.aload_n 0, 1) := by decide +kernel
theorem dX8_move_21 : decode cX8_move 21 = .ok (.getfield 37, 3) := by decide +kernel
theorem dX8_move_24 : decode cX8_move 24 = .ok (.iload_n 1, 1) := by decide +kernel
theorem dX8_move_25 : decode cX8_move 25 = .ok (.iaload, 1) := by decide +kernel
theorem dX8_move_26 : decode cX8_move 26 = .ok (.ifCond .eq 12, 3) := by decide +kernel
theorem dX8_move_29 : decode cX8_move 29 = .ok (.aload_n 0, 1) := by decide +kernel
theorem dX8_move_30 : decode cX8_move 30 = .ok (.getfield 37, 3) := by decide +kernel
theorem dX8_move_33 : decode cX8_move 33 = .ok (.iload_n 3, 1) := by decide +kernel
theorem dX8_move_34 : decode cX8_move 34 = .ok (.iaload, 1) := by decide +kernel
theorem dX8_move_35 : decode cX8_move 35 = .ok (.ifCond .ne 9, 3) := by decide +kernel
theorem dX8_move_38 : decode cX8_move 38 = .ok (.aload_n 0, 1) := by decide +kernel
theorem dX8_move_39 : decode cX8_move 39 = .ok (.iconst 2, 1) := by decide +kernel
theorem dX8_move_40 : decode cX8_move 40 = .ok (.invokevirtual 127, 3) := by decide +kernel
theorem dX8_move_43 : decode cX8_move 43 = .ok (.ireturn, 1) := by decide +kernel
theorem dX8_move_44 : decode cX8_move 44 = .ok (.aload_n 0, 1) := by decide +kernel
theorem dX8_move_45 : decode cX8_move 45 = .ok (.getfield 37, 3) := by decide +kernel
theorem dX8_move_48 : decode cX8_move 48 = .ok (.iload_n 1, 1) := by decide +kernel
theorem dX8_move_49 : decode cX8_move 49 = .ok (.iaload, 1) := by decide +kernel
theorem dX8_move_50 : decode cX8_move 50 = .ok (.aload_n 0, 1) := by decide +kernel
theorem dX8_move_51 : decode cX8_move 51 = .ok (.getfield 37, 3) := by decide +kernel
theorem dX8_move_54 : decode cX8_move 54 = .ok (.iload_n 3, 1) := by decide +kernel
theorem dX8_move_55 : decode cX8_move 55 = .ok (.iaload, 1) := by decide +kernel
theorem dX8_move_56 : decode cX8_move 56 = .ok (.if_icmp .eq 9, 3) := by decide +kernel
theorem dX8_move_59 : decode cX8_move 59 = .ok (.aload_n 0, 1) := by decide +kernel
theorem dX8_move_60 : decode cX8_move 60 = .ok (.iconst 5, 1) := by decide +kernel
theorem dX8_move_61 : decode cX8_move 61 = .ok (.invokevirtual 127, 3) := by decide +kernel
theorem dX8_move_64 : decode cX8_move 64 = .ok (.ireturn, 1) := by decide +kernel
theorem dX8_move_65 : decode cX8_move 65 = .ok (.iload 5, 2) := by decide +kernel
theorem dX8_move_67 : decode cX8_move 67 = .ok (.ifCond .lt 39, 3) := by decide +kernel
theorem dX8_move_70 : decode cX8_move 70 = .ok (.iload_n 2, 1) := by decide +kernel
theorem dX8_move_71 : decode cX8_move 71 = .ok (.ifCond .lt 35, 3) := by decide +kernel
theorem dX8_move_74 : decode cX8_move 74 = .ok (.iload 4, 2) := by decide +kernel
theorem dX8_move_76 : decode cX8_move 76 = .ok (.ifCond .lt 30, 3) := by decide +kernel
theorem dX8_move_79 : decode cX8_move 79 = .ok (.iload 5, 2) := by decide +kernel
theorem dX8_move_81 : decode cX8_move 81 = .ok (.aload_n 0, 1) := by decide +kernel
theorem dX8_move_82 : decode cX8_move 82 = .ok (.getfield 40, 3) := by decide +kernel
theorem dX8_move_85 : decode cX8_move 85 = .ok (.iload_n 1, 1) := by decide +kernel
theorem dX8_move_86 : decode cX8_move 86 = .ok (.iaload, 1) := by decide +kernel
theorem dX8_move_87 : decode cX8_move 87 = .ok (.iload_n 2, 1) := by decide +kernel
theorem dX8_move_88 : decode cX8_move 88 = .ok (.isub, 1) := by decide +kernel
theorem dX8_move_89 : decode cX8_move 89 = .ok (.if_icmp .gt 17, 3) := by decide +kernel
theorem dX8_move_92 : decode cX8_move 92 = .ok (.iload 5, 2) := by decide +kernel
theorem dX8_move_94 : decode cX8_move 94 = .ok (.aload_n 0, 1) := by decide +kernel
theorem dX8_move_95 : decode cX8_move 95 = .ok (.getfield 40, 3) := by decide +kernel
theorem dX8_move_98 : decode cX8_move 98 = .ok (.iload_n 3, 1) := by decide +kernel
theorem dX8_move_99 : decode cX8_move 99 = .ok (.iaload, 1) := by decide +kernel
theorem dX8_move_100 : decode cX8_move 100 = .ok (.iload 4, 2) := by decide +kernel
theorem dX8_move_102 : decode cX8_move 102 = .ok (.isub, 1) := by decide +kernel
theorem dX8_move_103 : decode cX8_move 103 = .ok (.if_icmp .le 9, 3) := by decide +kernel
theorem dX8_move_106 : decode cX8_move 106 = .ok (.aload_n 0, 1) := by decide +kernel
theorem dX8_move_107 : decode cX8_move 107 = .ok (.iconst 1, 1) := by decide +kernel
theorem dX8_move_108 : decode cX8_move 108 = .ok (.invokevirtual 127, 3) := by decide +kernel
theorem dX8_move_111 : decode cX8_move 111 = .ok (.ireturn, 1) := by decide +kernel
theorem dX8_move_112 : decode cX8_move 112 = .ok (.iconst 0, 1) := by decide +kernel
theorem dX8_move_113 : decode cX8_move 113 = .ok (.istore 6, 2) := by decide +kernel
theorem dX8_move_115 : decode cX8_move 115 = .ok (.iload 6, 2) := by decide +kernel
theorem dX8_move_117 : decode cX8_move 117 = .ok (.iload 5, 2) := by decide +kernel
theorem dX8_move_119 : decode cX8_move 119 = .ok (.if_icmp .ge 30, 3) := by decide +kernel
theorem dX8_move_122 : decode cX8_move 122 = .ok (.aload_n 0, 1) := by decide +kernel
theorem dX8_move_123 : decode cX8_move 123 = .ok (.getfield 46, 3) := by decide +kernel
theorem dX8_move_126 : decode cX8_move 126 = .ok (.iload 6, 2) := by decide +kernel
theorem dX8_move_128 : decode cX8_move 128 = .ok (.aload_n 0, 1) := by decide +kernel
theorem dX8_move_129 : decode cX8_move 129 = .ok (.getfield 43, 3) := by decide +kernel
theorem dX8_move_132 : decode cX8_move 132 = .ok (.bipush 40, 2) := by decide +kernel
theorem dX8_move_134 : decode cX8_move 134 = .ok (.iload_n 1, 1) := by decide +kernel
theorem dX8_move_135 : decode cX8_move 135 = .ok (.imul, 1) := by decide +kernel
theorem dX8_move_136 : decode cX8_move 136 = .ok (.iload_n 2, 1) := by decide +kernel
theorem dX8_move_137 : decode cX8_move 137 = .ok (.iadd, 1) := by decide +kernel
theorem dX8_move_138 : decode cX8_move 138 = .ok (.iload 6, 2) := by decide +kernel
theorem dX8_move_140 : decode cX8_move 140 = .ok (.iadd, 1) := by decide +kernel
theorem dX8_move_141 : decode cX8_move 141 = .ok (.iaload, 1) := by decide +kernel
theorem dX8_move_142 : decode cX8_move 142 = .ok (.iastore, 1) := by decide +kernel
theorem dX8_move_143 : decode cX8_move 143 = .ok (.iinc 6 1, 3) := by decide +kernel
theorem dX8_move_146 : decode cX8_move 146 = .ok (.goto (-31), 3) := by decide +kernel
theorem dX8_move_149 : decode cX8_move 149 = .ok (.iconst 0, 1) := by decide +kernel
theorem dX8_move_150 : decode cX8_move 150 = .ok (.istore 6, 2) := by decide +kernel
theorem dX8_move_152 : decode cX8_move 152 = .ok (.iload 6, 2) := by decide +kernel
theorem dX8_move_154 : decode cX8_move 154 = .ok (.iload 5, 2) := by decide +kernel
theorem dX8_move_156 : decode cX8_move 156 = .ok (.if_icmp .ge 31, 3) := by decide +kernel
theorem dX8_move_159 : decode cX8_move 159 = .ok (.aload_n 0, 1) := by decide +kernel
theorem dX8_move_160 : decode cX8_move 160 = .ok (.getfield 43, 3) := by decide +kernel
theorem dX8_move_163 : decode cX8_move 163 = .ok (.bipush 40, 2) := by decide +kernel
theorem dX8_move_165 : decode cX8_move 165 = .ok (.iload_n 3, 1) := by decide +kernel
theorem dX8_move_166 : decode cX8_move 166 = .ok (.imul, 1) := by decide +kernel
theorem dX8_move_167 : decode cX8_move 167 = .ok (.iload 4, 2) := by decide +kernel
theorem dX8_move_169 : decode cX8_move 169 = .ok (.iadd, 1) := by decide +kernel
theorem dX8_move_170 : decode cX8_move 170 = .ok (.iload 6, 2) := by decide +kernel
theorem dX8_move_172 : decode cX8_move 172 = .ok (.iadd, 1) := by decide +kernel
theorem dX8_move_173 : decode cX8_move 173 = .ok (.aload_n 0, 1) := by decide +kernel
theorem dX8_move_174 : decode cX8_move 174 = .ok (.getfield 46, 3) := by decide +kernel
theorem dX8_move_177 : decode cX8_move 177 = .ok (.iload 6, 2) := by decide +kernel
theorem dX8_move_179 : decode cX8_move 179 = .ok (.iaload, 1) := by decide +kernel
theorem dX8_move_180 : decode cX8_move 180 = .ok (.iastore, 1) := by decide +kernel
theorem dX8_move_181 : decode cX8_move 181 = .ok (.iinc 6 1, 3) := by decide +kernel
theorem dX8_move_184 : decode cX8_move 184 = .ok (.goto (-32), 3) := by decide +kernel
theorem dX8_move_187 : decode cX8_move 187 = .ok (.iload 5, 2) := by decide +kernel
theorem dX8_move_189 : decode cX8_move 189 = .ok (.ireturn, 1) := by decide +kernel
theorem dX8_knives_0 : decode cX8_knives 0 = .ok (.iload_n 1, 1) := by decide +kernel
theorem dX8_knives_1 : decode cX8_knives 1 = .ok (.invokestatic 280, 3) := by decide +kernel
theorem dX8_knives_4 : decode cX8_knives 4 = .ok (.ifCond .ne 9, 3) := by decide +kernel
theorem dX8_knives_7 : decode cX8_knives 7 = .ok (.aload_n 0, 1) := by decide +kernel
theorem dX8_knives_8 : decode cX8_knives 8 = .ok (.iconst 1, 1) := by decide +kernel
theorem dX8_knives_9 : decode cX8_knives 9 = .ok (.invokevirtual 127, 3) := by decide +kernel
theorem dX8_knives_12 : decode cX8_knives 12 = .ok (.ireturn, 1) := by decide +kernel
theorem dX8_knives_13 : decode cX8_knives 13 = .ok (.aload_n 0, 1) := by decide +kernel
theorem dX8_knives_14 : decode cX8_knives 14 = .ok (.getfield 37, 3) := by decide +kernel
theorem dX8_knives_17 : decode cX8_knives 17 = .ok (.iload_n 1, 1) := by decide +kernel
theorem dX8_knives_18 : decode cX8_knives 18 = .ok (.iaload, 1) := by decide +kernel
theorem dX8_knives_19 : decode cX8_knives 19 = .ok (.ifCond .ne 9, 3) := by decide +kernel
theorem dX8_knives_22 : decode cX8_knives 22 = .ok (.aload_n 0, 1) := by decide +kernel
theorem dX8_knives_23 : decode cX8_knives 23 = .ok (.iconst 2, 1) := by decide +kernel
theorem dX8_knives_24 : decode cX8_knives 24 = .ok (.invokevirtual 127, 3) := by decide +kernel
theorem dX8_knives_27 : decode cX8_knives 27 = .ok (.ireturn, 1) := by decide +kernel
theorem dX8_knives_28 : decode cX8_knives 28 = .ok (.iconst 0, 1) := by decide +kernel
theorem dX8_knives_29 : decode cX8_knives 29 = .ok (.istore_n 2, 1) := by decide +kernel
theorem dX8_knives_30 : decode cX8_knives 30 = .ok (.bipush 40, 2) := by decide +kernel
theorem dX8_knives_32 : decode cX8_knives 32 = .ok (.iload_n 1, 1) := by decide +kernel
theorem dX8_knives_33 : decode cX8_knives 33 = .ok (.imul, 1) := by decide +kernel
theorem dX8_knives_34 : decode cX8_knives 34 = .ok (.istore_n 3, 1) := by decide +kernel
theorem dX8_knives_35 : decode cX8_knives 35 = .ok (.iconst 3, 1) := by decide +kernel
theorem dX8_knives_36 : decode cX8_knives 36 = .ok (.iload_n 2, 1) := by decide +kernel
theorem dX8_knives_37 : decode cX8_knives 37 = .ok (.imul, 1) := by decide +kernel
theorem dX8_knives_38 : decode cX8_knives 38 = .ok (.iconst 3, 1) := by decide +kernel
theorem dX8_knives_39 : decode cX8_knives 39 = .ok (.iadd, 1) := by decide +kernel
theorem dX8_knives_40 : decode cX8_knives 40 = .ok (.aload_n 0, 1) := by decide +kernel
theorem dX8_knives_41 : decode cX8_knives 41 = .ok (.getfield 40, 3) := by decide +kernel
theorem dX8_knives_44 : decode cX8_knives 44 = .ok (.iload_n 1, 1) := by decide +kernel
theorem dX8_knives_45 : decode cX8_knives 45 = .ok (.iaload, 1) := by decide +kernel
theorem dX8_knives_46 : decode cX8_knives 46 = .ok (.if_icmp .gt 80, 3) := by decide +kernel
theorem dX8_knives_49 : decode cX8_knives 49 = .ok (.aload_n 0, 1) := by decide +kernel
theorem dX8_knives_50 : decode cX8_knives 50 = .ok (.getfield 7, 3) := by decide +kernel
theorem dX8_knives_53 : decode cX8_knives 53 = .ok (.bipush 9, 2) := by decide +kernel
theorem dX8_knives_55 : decode cX8_knives 55 = .ok (.iaload, 1) := by decide +kernel
theorem dX8_knives_56 : decode cX8_knives 56 = .ok (.bipush 8, 2) := by decide +kernel
theorem dX8_knives_58 : decode cX8_knives 58 = .ok (.if_icmp .ge 68, 3) := by decide +kernel
theorem dX8_knives_61 : decode cX8_knives 61 = .ok (.aload_n 0, 1) := by decide +kernel
theorem dX8_knives_62 : decode cX8_knives 62 = .ok (.getfield 43, 3) := by decide +kernel
theorem dX8_knives_65 : decode cX8_knives 65 = .ok (.iload_n 3, 1) := by decide +kernel
theorem dX8_knives_66 : decode cX8_knives 66 = .ok (.iaload, 1) := by decide +kernel
theorem dX8_knives_67 : decode cX8_knives 67 = .ok (.aload_n 0, 1) := by decide +kernel
theorem dX8_knives_68 : decode cX8_knives 68 = .ok (.getfield 43, 3) := by decide +kernel
theorem dX8_knives_71 : decode cX8_knives 71 = .ok (.iload_n 3, 1) := by decide +kernel
theorem dX8_knives_72 : decode cX8_knives 72 = .ok (.iconst 1, 1) := by decide +kernel
theorem dX8_knives_73 : decode cX8_knives 73 = .ok (.iadd, 1) := by decide +kernel
theorem dX8_knives_74 : decode cX8_knives 74 = .ok (.iaload, 1) := by decide +kernel
theorem dX8_knives_75 : decode cX8_knives 75 = .ok (.aload_n 0, 1) := by decide +kernel
theorem dX8_knives_76 : decode cX8_knives 76 = .ok (.getfield 43, 3) := by decide +kernel
theorem dX8_knives_79 : decode cX8_knives 79 = .ok (.iload_n 3, 1) := by decide +kernel
theorem dX8_knives_80 : decode cX8_knives 80 = .ok (.iconst 2, 1) := by decide +kernel
theorem dX8_knives_81 : decode cX8_knives 81 = .ok (.iadd, 1) := by decide +kernel
theorem dX8_knives_82 : decode cX8_knives 82 = .ok (.iaload, 1) := by decide +kernel
theorem dX8_knives_83 : decode cX8_knives 83 = .ok (.invokestatic 156, 3) := by decide +kernel
theorem dX8_knives_86 : decode cX8_knives 86 = .ok (.ifCond .eq 40, 3) := by decide +kernel
theorem dX8_knives_89 : decode cX8_knives 89 = .ok (.aload_n 0, 1) := by decide +kernel
theorem dX8_knives_90 : decode cX8_knives 90 = .ok (.aload_n 0, 1) := by decide +kernel
theorem dX8_knives_91 : decode cX8_knives 91 = .ok (.getfield 43, 3) := by decide +kernel
theorem dX8_knives_94 : decode cX8_knives 94 = .ok (.iload_n 3, 1) := by decide +kernel
theorem dX8_knives_95 : decode cX8_knives 95 = .ok (.iaload, 1) := by decide +kernel
theorem dX8_knives_96 : decode cX8_knives 96 = .ok (.aload_n 0, 1) := by decide +kernel
theorem dX8_knives_97 : decode cX8_knives 97 = .ok (.getfield 43, 3) := by decide +kernel
theorem dX8_knives_100 : decode cX8_knives 100 = .ok (.iload_n 3, 1) := by decide +kernel
theorem dX8_knives_101 : decode cX8_knives 101 = .ok (.iconst 1, 1) := by decide +kernel
theorem dX8_knives_102 : decode cX8_knives 102 = .ok (.iadd, 1) := by decide +kernel
theorem dX8_knives_103 : decode cX8_knives 103 = .ok (.iaload, 1) := by decide +kernel
theorem dX8_knives_104 : decode cX8_knives 104 = .ok (.aload_n 0, 1) := by decide +kernel
theorem dX8_knives_105 : decode cX8_knives 105 = .ok (.getfield 43, 3) := by decide +kernel
theorem dX8_knives_108 : decode cX8_knives 108 = .ok (.iload_n 3, 1) := by decide +kernel
theorem dX8_knives_109 : decode cX8_knives 109 = .ok (.iconst 2, 1) := by decide +kernel
theorem dX8_knives_110 : decode cX8_knives 110 = .ok (.iadd, 1) := by decide +kernel
theorem dX8_knives_111 : decode cX8_knives 111 = .ok (.iaload, 1) := by decide +kernel
theorem dX8_knives_112 : decode cX8_knives 112 = .ok (.invokevirtual 160, 3) := by decide +kernel
theorem dX8_knives_115 : decode cX8_knives 115 = .ok (.istore 4, 2) := by decide +kernel
theorem dX8_knives_117 : decode cX8_knives 117 = .ok (.iinc 2 1, 3) := by decide +kernel
theorem dX8_knives_120 : decode cX8_knives 120 = .ok (.iinc 3 3, 3) := by decide +kernel
theorem dX8_knives_123 : decode cX8_knives 123 = .ok (.goto (-88), 3) := by decide +kernel
theorem dX8_knives_126 : decode cX8_knives 126 = .ok (.iload_n 2, 1) := by decide +kernel
theorem dX8_knives_127 : decode cX8_knives 127 = .ok (.ireturn, 1) := by decide +kernel
theorem dX8_image_0 : decode cX8_image 0 = .ok (.aload_n 0, 1) := by decide +kernel
theorem dX8_image_1 : decode cX8_image 1 = .ok (.getfield 7, 3) := by decide +kernel
theorem dX8_image_4 : decode cX8_image 4 = .ok (.aload_n 0, 1) := by decide +kernel
theorem dX8_image_5 : decode cX8_image 5 = .ok (.getfield 16, 3) := by decide +kernel
theorem dX8_image_8 : decode cX8_image 8 = .ok (.invokestatic 229, 3) := by decide +kernel
theorem dX8_image_11 : decode cX8_image 11 = .ok (.aload_n 0, 1) := by decide +kernel
theorem dX8_image_12 : decode cX8_image 12 = .ok (.dup, 1) := by decide +kernel
theorem dX8_image_13 : decode cX8_image 13 = .ok (.getfield 283, 3) := by decide +kernel
theorem dX8_image_16 : decode cX8_image 16 = .ok (.iconst 1, 1) := by decide +kernel
theorem dX8_image_17 : decode cX8_image 17 = .ok (.iadd, 1) := by decide +kernel
theorem dX8_image_18 : decode cX8_image 18 = .ok (.putfield 283, 3) := by decide +kernel
theorem dX8_image_21 : decode cX8_image 21 = .ok (.aload_n 0, 1) := by decide +kernel
theorem dX8_image_22 : decode cX8_image 22 = .ok (.getfield 283, 3) := by decide +kernel
theorem dX8_image_25 : decode cX8_image 25 = .ok (.ireturn, 1) := by decide +kernel
theorem dX8_restore_0 : decode cX8_restore 0 = .ok (.aload_n 0, 1) := by decide +kernel
theorem dX8_restore_1 : decode cX8_restore 1 = .ok (.getfield 283, 3) := by decide +kernel
theorem dX8_restore_4 : decode cX8_restore 4 = .ok (.ifCond .ne 9, 3) := by decide +kernel
theorem dX8_restore_7 : decode cX8_restore 7 = .ok (.aload_n 0, 1) := by decide +kernel
theorem dX8_restore_8 : decode cX8_restore 8 = .ok (.iconst 2, 1) := by decide +kernel
theorem dX8_restore_9 : decode cX8_restore 9 = .ok (.invokevirtual 127, 3) := by decide +kernel
theorem dX8_restore_12 : decode cX8_restore 12 = .ok (.ireturn, 1) := by decide +kernel
theorem dX8_restore_13 : decode cX8_restore 13 = .ok (.aload_n 0, 1) := by decide +kernel
theorem dX8_restore_14 : decode cX8_restore 14 = .ok (.getfield 16, 3) := by decide +kernel
theorem dX8_restore_17 : decode cX8_restore 17 = .ok (.aload_n 0, 1) := by decide +kernel
theorem dX8_restore_18 : decode cX8_restore 18 = .ok (.getfield 7, 3) := by decide +kernel
theorem dX8_restore_21 : decode cX8_restore 21 = .ok (.invokestatic 229, 3) := by decide +kernel
theorem dX8_restore_24 : decode cX8_restore 24 = .ok (.aload_n 0, 1) := by decide +kernel
theorem dX8_restore_25 : decode cX8_restore 25 = .ok (.getfield 7, 3) := by decide +kernel
theorem dX8_restore_28 : decode cX8_restore 28 = .ok (.bipush 8, 2) := by decide +kernel
theorem dX8_restore_30 : decode cX8_restore 30 = .ok (.iaload, 1) := by decide +kernel
theorem dX8_restore_31 : decode cX8_restore 31 = .ok (.ireturn, 1) := by decide +kernel
theorem dX8_tell_0 : decode cX8_tell 0 = .ok (.aload_n 0, 1) := by decide +kernel
theorem dX8_tell_1 : decode cX8_tell 1 = .ok (.getfield 7, 3) := by decide +kernel
theorem dX8_tell_4 : decode cX8_tell 4 = .ok (.bipush 12, 2) := by decide +kernel
theorem dX8_tell_6 : decode cX8_tell 6 = .ok (.iaload, 1) := by decide +kernel
theorem dX8_tell_7 : decode cX8_tell 7 = .ok (.bipush 20, 2) := by decide +kernel
theorem dX8_tell_9 : decode cX8_tell 9 = .ok (.if_icmp .ne 9, 3) := by decide +kernel
theorem dX8_tell_12 : decode cX8_tell 12 = .ok (.aload_n 0, 1) := by decide +kernel
theorem dX8_tell_13 : decode cX8_tell 13 = .ok (.iconst 4, 1) := by decide +kernel
theorem dX8_tell_14 : decode cX8_tell 14 = .ok (.invokevirtual 127, 3) := by decide +kernel
theorem dX8_tell_17 : decode cX8_tell 17 = .ok (.ireturn, 1) := by decide +kernel
theorem dX8_tell_18 : decode cX8_tell 18 = .ok (.aload_n 0, 1) := by decide +kernel
theorem dX8_tell_19 : decode cX8_tell 19 = .ok (.getfield 7, 3) := by decide +kernel
theorem dX8_tell_22 : decode cX8_tell 22 = .ok (.bipush 87, 2) := by decide +kernel
theorem dX8_tell_24 : decode cX8_tell 24 = .ok (.aload_n 0, 1) := by decide +kernel
theorem dX8_tell_25 : decode cX8_tell 25 = .ok (.getfield 7, 3) := by decide +kernel
theorem dX8_tell_28 : decode cX8_tell 28 = .ok (.bipush 12, 2) := by decide +kernel
theorem dX8_tell_30 : decode cX8_tell 30 = .ok (.iaload, 1) := by decide +kernel
theorem dX8_tell_31 : decode cX8_tell 31 = .ok (.iadd, 1) := by decide +kernel
theorem dX8_tell_32 : decode cX8_tell 32 = .ok (.iload_n 1, 1) := by decide +kernel
theorem dX8_tell_33 : decode cX8_tell 33 = .ok (.iastore, 1) := by decide +kernel
theorem dX8_tell_34 : decode cX8_tell 34 = .ok (.aload_n 0, 1) := by decide +kernel
theorem dX8_tell_35 : decode cX8_tell 35 = .ok (.getfield 7, 3) := by decide +kernel
theorem dX8_tell_38 : decode cX8_tell 38 = .ok (.bipush 12, 2) := by decide +kernel
theorem dX8_tell_40 : decode cX8_tell 40 = .ok (.dup2, 1) := by decide +kernel
theorem dX8_tell_41 : decode cX8_tell 41 = .ok (.iaload, 1) := by decide +kernel
theorem dX8_tell_42 : decode cX8_tell 42 = .ok (.iconst 1, 1) := by decide +kernel
theorem dX8_tell_43 : decode cX8_tell 43 = .ok (.iadd, 1) := by decide +kernel
theorem dX8_tell_44 : decode cX8_tell 44 = .ok (.iastore, 1) := by decide +kernel
theorem dX8_tell_45 : decode cX8_tell 45 = .ok (.aload_n 0, 1) := by decide +kernel
theorem dX8_tell_46 : decode cX8_tell 46 = .ok (.getfield 7, 3) := by decide +kernel
theorem dX8_tell_49 : decode cX8_tell 49 = .ok (.bipush 12, 2) := by decide +kernel
theorem dX8_tell_51 : decode cX8_tell 51 = .ok (.iaload, 1) := by decide +kernel
theorem dX8_tell_52 : decode cX8_tell 52 = .ok (.ireturn, 1) := by decide +kernel
theorem dX8_check_0 : decode cX8_check 0 = .ok (.aload_n 0, 1) := by decide +kernel
theorem dX8_check_1 : decode cX8_check 1 = .ok (.getfield 7, 3) := by decide +kernel
theorem dX8_check_4 : decode cX8_check 4 = .ok (.bipush 12, 2) := by decide +kernel
theorem dX8_check_6 : decode cX8_check 6 = .ok (.iaload, 1) := by decide +kernel
theorem dX8_check_7 : decode cX8_check 7 = .ok (.istore_n 2, 1) := by decide +kernel
theorem dX8_check_8 : decode cX8_check 8 = .ok (.aload_n 0, 1) := by decide +kernel
theorem dX8_check_9 : decode cX8_check 9 = .ok (.getfield 7, 3) := by decide +kernel
theorem dX8_check_12 : decode cX8_check 12 = .ok (.bipush 12, 2) := by decide +kernel
theorem dX8_check_14 : decode cX8_check 14 = .ok (.iconst 0, 1) := by decide +kernel
theorem dX8_check_15 : decode cX8_check 15 = .ok (.iastore, 1) := by decide +kernel
theorem dX8_check_16 : decode cX8_check 16 = .ok (.aload_n 0, 1) := by decide +kernel
theorem dX8_check_17 : decode cX8_check 17 = .ok (.iload_n 1, 1) := by decide +kernel
theorem dX8_check_18 : decode cX8_check 18 = .ok (.invokevirtual 178, 3) := by decide +kernel
theorem dX8_check_21 : decode cX8_check 21 = .ok (.ifCond .ne 9, 3) := by decide +kernel
theorem dX8_check_24 : decode cX8_check 24 = .ok (.aload_n 0, 1) := by decide +kernel
theorem dX8_check_25 : decode cX8_check 25 = .ok (.iconst 1, 1) := by decide +kernel
theorem dX8_check_26 : decode cX8_check 26 = .ok (.invokevirtual 127, 3) := by decide +kernel
theorem dX8_check_29 : decode cX8_check 29 = .ok (.ireturn, 1) := by decide +kernel
theorem dX8_check_30 : decode cX8_check 30 = .ok (.iconst 0, 1) := by decide +kernel
theorem dX8_check_31 : decode cX8_check 31 = .ok (.istore_n 3, 1) := by decide +kernel
theorem dX8_check_32 : decode cX8_check 32 = .ok (.aload_n 0, 1) := by decide +kernel
theorem dX8_check_33 : decode cX8_check 33 = .ok (.getfield 7, 3) := by decide +kernel
theorem dX8_check_36 : decode cX8_check 36 = .ok (.aload_n 0, 1) := by decide +kernel
theorem dX8_check_37 : decode cX8_check 37 = .ok (.getfield 13, 3) := by decide +kernel
theorem dX8_check_40 : decode cX8_check 40 = .ok (.invokestatic 229, 3) := by decide +kernel
theorem dX8_check_43 : decode cX8_check 43 = .ok (.iconst 0, 1) := by decide +kernel
theorem dX8_check_44 : decode cX8_check 44 = .ok (.istore 4, 2) := by decide +kernel
theorem dX8_check_46 : decode cX8_check 46 = .ok (.iload 4, 2) := by decide +kernel
theorem dX8_check_48 : decode cX8_check 48 = .ok (.iload_n 2, 1) := by decide +kernel
theorem dX8_check_49 : decode cX8_check 49 = .ok (.if_icmp .ge 46, 3) := by decide +kernel
theorem dX8_check_52 : decode cX8_check 52 = .ok (.iload_n 3, 1) := by decide +kernel
theorem dX8_check_53 : decode cX8_check 53 = .ok (.ifCond .ne 42, 3) := by decide +kernel
theorem dX8_check_56 : decode cX8_check 56 = .ok (.aload_n 0, 1) := by decide +kernel
theorem dX8_check_57 : decode cX8_check 57 = .ok (.iconst 0, 1) := by decide +kernel
theorem dX8_check_58 : decode cX8_check 58 = .ok (.invokevirtual 219, 3) := by decide +kernel
theorem dX8_check_61 : decode cX8_check 61 = .ok (.aload_n 0, 1) := by decide +kernel
theorem dX8_check_62 : decode cX8_check 62 = .ok (.iload_n 1, 1) := by decide +kernel
theorem dX8_check_63 : decode cX8_check 63 = .ok (.iconst 3, 1) := by decide +kernel
theorem dX8_check_64 : decode cX8_check 64 = .ok (.invokevirtual 163, 3) := by decide +kernel
theorem dX8_check_67 : decode cX8_check 67 = .ok (.aload_n 0, 1) := by decide +kernel
theorem dX8_check_68 : decode cX8_check 68 = .ok (.getfield 7, 3) := by decide +kernel
theorem dX8_check_71 : decode cX8_check 71 = .ok (.bipush 87, 2) := by decide +kernel
theorem dX8_check_73 : decode cX8_check 73 = .ok (.iload 4, 2) := by decide +kernel
theorem dX8_check_75 : decode cX8_check 75 = .ok (.iadd, 1) := by decide +kernel
theorem dX8_check_76 : decode cX8_check 76 = .ok (.iaload, 1) := by decide +kernel
theorem dX8_check_77 : decode cX8_check 77 = .ok (.if_icmp .ne 7, 3) := by decide +kernel
theorem dX8_check_80 : decode cX8_check 80 = .ok (.iconst 0, 1) := by decide +kernel
theorem dX8_check_81 : decode cX8_check 81 = .ok (.goto 7, 3) := by decide +kernel
theorem dX8_check_84 : decode cX8_check 84 = .ok (.iconst 1, 1) := by decide +kernel
theorem dX8_check_85 : decode cX8_check 85 = .ok (.iload 4, 2) := by decide +kernel
theorem dX8_check_87 : decode cX8_check 87 = .ok (.iadd, 1) := by decide +kernel
theorem dX8_check_88 : decode cX8_check 88 = .ok (.istore_n 3, 1) := by decide +kernel
theorem dX8_check_89 : decode cX8_check 89 = .ok (.iinc 4 1, 3) := by decide +kernel
theorem dX8_check_92 : decode cX8_check 92 = .ok (.goto (-46), 3) := by decide +kernel
theorem dX8_check_95 : decode cX8_check 95 = .ok (.aload_n 0, 1) := by decide +kernel
theorem dX8_check_96 : decode cX8_check 96 = .ok (.getfield 13, 3) := by decide +kernel
theorem dX8_check_99 : decode cX8_check 99 = .ok (.aload_n 0, 1) := by decide +kernel
theorem dX8_check_100 : decode cX8_check 100 = .ok (.getfield 7, 3) := by decide +kernel
theorem dX8_check_103 : decode cX8_check 103 = .ok (.invokestatic 229, 3) := by decide +kernel
theorem dX8_check_106 : decode cX8_check 106 = .ok (.iload_n 3, 1) := by decide +kernel
theorem dX8_check_107 : decode cX8_check 107 = .ok (.ireturn, 1) := by decide +kernel
theorem dX8_sumOf_0 : decode cX8_sumOf 0 = .ok (.iconst 0, 1) := by decide +kernel
theorem dX8_sumOf_1 : decode cX8_sumOf 1 = .ok (.istore_n 2, 1) := by decide +kernel
theorem dX8_sumOf_2 : decode cX8_sumOf 2 = .ok (.iconst 0, 1) := by decide +kernel
theorem dX8_sumOf_3 : decode cX8_sumOf 3 = .ok (.istore_n 3, 1) := by decide +kernel
theorem dX8_sumOf_4 : decode cX8_sumOf 4 = .ok (.iload_n 3, 1) := by decide +kernel
theorem dX8_sumOf_5 : decode cX8_sumOf 5 = .ok (.aload_n 0, 1) := by decide +kernel
theorem dX8_sumOf_6 : decode cX8_sumOf 6 = .ok (.getfield 7, 3) := by decide +kernel
theorem dX8_sumOf_9 : decode cX8_sumOf 9 = .ok (.bipush 9, 2) := by decide +kernel
theorem dX8_sumOf_11 : decode cX8_sumOf 11 = .ok (.iaload, 1) := by decide +kernel
theorem dX8_sumOf_12 : decode cX8_sumOf 12 = .ok (.if_icmp .ge 18, 3) := by decide +kernel
theorem dX8_sumOf_15 : decode cX8_sumOf 15 = .ok (.iload_n 2, 1) := by decide +kernel
theorem dX8_sumOf_16 : decode cX8_sumOf 16 = .ok (.aload_n 0, 1) := by decide +kernel
theorem dX8_sumOf_17 : decode cX8_sumOf 17 = .ok (.iload_n 3, 1) := by decide +kernel
theorem dX8_sumOf_18 : decode cX8_sumOf 18 = .ok (.iload_n 1, 1) := by decide +kernel
theorem dX8_sumOf_19 : decode cX8_sumOf 19 = .ok (.invokevirtual 163, 3) := by decide +kernel
theorem dX8_sumOf_22 : decode cX8_sumOf 22 = .ok (.iadd, 1) := by decide +kernel
theorem dX8_sumOf_23 : decode cX8_sumOf 23 = .ok (.istore_n 2, 1) := by decide +kernel
theorem dX8_sumOf_24 : decode cX8_sumOf 24 = .ok (.iinc 3 1, 3) := by decide +kernel
theorem dX8_sumOf_27 : decode cX8_sumOf 27 = .ok (.goto (-23), 3) := by decide +kernel
theorem dX8_sumOf_30 : decode cX8_sumOf 30 = .ok (.iload_n 2, 1) := by decide +kernel
theorem dX8_sumOf_31 : decode cX8_sumOf 31 = .ok (.ireturn, 1) := by decide +kernel
theorem dX8_count_0 : decode cX8_count 0 = .ok (.iload_n 1, 1) := by decide +kernel
theorem dX8_count_1 : decode cX8_count 1 = .ok (.tableswitch 117 0 8 #[51, 59, 67, 75, 81, 88, 96, 104, 109], 51) := by decide +kernel
theorem dX8_count_52 : decode cX8_count 52 = .ok (.aload_n 0, 1) := by decide +kernel
theorem dX8_count_53 : decode cX8_count 53 = .ok (.getfield 7, 3) := by decide +kernel
theorem dX8_count_56 : decode cX8_count 56 = .ok (.bipush 8, 2) := by decide +kernel
theorem dX8_count_58 : decode cX8_count 58 = .ok (.iaload, 1) := by decide +kernel
theorem dX8_count_59 : decode cX8_count 59 = .ok (.ireturn, 1) := by decide +kernel
theorem dX8_count_60 : decode cX8_count 60 = .ok (.aload_n 0, 1) := by decide +kernel
theorem dX8_count_61 : decode cX8_count 61 = .ok (.getfield 7, 3) := by decide +kernel
theorem dX8_count_64 : decode cX8_count 64 = .ok (.bipush 9, 2) := by decide +kernel
theorem dX8_count_66 : decode cX8_count 66 = .ok (.iaload, 1) := by decide +kernel
theorem dX8_count_67 : decode cX8_count 67 = .ok (.ireturn, 1) := by decide +kernel
theorem dX8_count_68 : decode cX8_count 68 = .ok (.aload_n 0, 1) := by decide +kernel
theorem dX8_count_69 : decode cX8_count 69 = .ok (.getfield 7, 3) := by decide +kernel
theorem dX8_count_72 : decode cX8_count 72 = .ok (.bipush 7, 2) := by decide +kernel
theorem dX8_count_74 : decode cX8_count 74 = .ok (.iaload, 1) := by decide +kernel
theorem dX8_count_75 : decode cX8_count 75 = .ok (.ireturn, 1) := by decide +kernel
theorem dX8_count_76 : decode cX8_count 76 = .ok (.aload_n 0, 1) := by decide +kernel
theorem dX8_count_77 : decode cX8_count 77 = .ok (.iconst 4, 1) := by decide +kernel
theorem dX8_count_78 : decode cX8_count 78 = .ok (.invokevirtual 286, 3) := by decide +kernel
theorem dX8_count_81 : decode cX8_count 81 = .ok (.ireturn, 1) := by decide +kernel
theorem dX8_count_82 : decode cX8_count 82 = .ok (.aload_n 0, 1) := by decide +kernel
theorem dX8_count_83 : decode cX8_count 83 = .ok (.bipush 8, 2) := by decide +kernel
theorem dX8_count_85 : decode cX8_count 85 = .ok (.invokevirtual 286, 3) := by decide +kernel
theorem dX8_count_88 : decode cX8_count 88 = .ok (.ireturn, 1) := by decide +kernel
theorem dX8_count_89 : decode cX8_count 89 = .ok (.aload_n 0, 1) := by decide +kernel
theorem dX8_count_90 : decode cX8_count 90 = .ok (.getfield 7, 3) := by decide +kernel
theorem dX8_count_93 : decode cX8_count 93 = .ok (.bipush 11, 2) := by decide +kernel
theorem dX8_count_95 : decode cX8_count 95 = .ok (.iaload, 1) := by decide +kernel
theorem dX8_count_96 : decode cX8_count 96 = .ok (.ireturn, 1) := by decide +kernel
theorem dX8_count_97 : decode cX8_count 97 = .ok (.aload_n 0, 1) := by decide +kernel
theorem dX8_count_98 : decode cX8_count 98 = .ok (.getfield 7, 3) := by decide +kernel
theorem dX8_count_101 : decode cX8_count 101 = .ok (.bipush 12, 2) := by decide +kernel
theorem dX8_count_103 : decode cX8_count 103 = .ok (.iaload, 1) := by decide +kernel
theorem dX8_count_104 : decode cX8_count 104 = .ok (.ireturn, 1) := by decide +kernel
theorem dX8_count_105 : decode cX8_count 105 = .ok (.aload_n 0, 1) := by decide +kernel
theorem dX8_count_106 : decode cX8_count 106 = .ok (.getfield 256, 3) := by decide +kernel
theorem dX8_count_109 : decode cX8_count 109 = .ok (.ireturn, 1) := by decide +kernel
theorem dX8_count_110 : decode cX8_count 110 = .ok (.aload_n 0, 1) := by decide +kernel
theorem dX8_count_111 : decode cX8_count 111 = .ok (.getfield 7, 3) := by decide +kernel
theorem dX8_count_114 : decode cX8_count 114 = .ok (.bipush 10, 2) := by decide +kernel
theorem dX8_count_116 : decode cX8_count 116 = .ok (.iaload, 1) := by decide +kernel
theorem dX8_count_117 : decode cX8_count 117 = .ok (.ireturn, 1) := by decide +kernel
theorem dX8_count_118 : decode cX8_count 118 = .ok (.aload_n 0, 1) := by decide +kernel
theorem dX8_count_119 : decode cX8_count 119 = .ok (.iconst 1, 1) := by decide +kernel
theorem dX8_count_120 : decode cX8_count 120 = .ok (.invokevirtual 127, 3) := by decide +kernel
theorem dX8_count_123 : decode cX8_count 123 = .ok (.ireturn, 1) := by decide +kernel
theorem dX8_told_0 : decode cX8_told 0 = .ok (.iload_n 1, 1) := by decide +kernel
theorem dX8_told_1 : decode cX8_told 1 = .ok (.i2l, 1) := by decide +kernel
theorem dX8_told_2 : decode cX8_told 2 = .ok (.lconst 1, 1) := by decide +kernel
theorem dX8_told_3 : decode cX8_told 3 = .ok (.ldc2_w 149, 3) := by decide +kernel
theorem dX8_told_6 : decode cX8_told 6 = .ok (.invokestatic 50, 3) := by decide +kernel
theorem dX8_told_9 : decode cX8_told 9 = .ok (.ifCond .eq 12, 3) := by decide +kernel
theorem dX8_told_12 : decode cX8_told 12 = .ok (.aload_n 0, 1) := by decide +kernel
theorem dX8_told_13 : decode cX8_told 13 = .ok (.getfield 19, 3) := by decide +kernel
theorem dX8_told_16 : decode cX8_told 16 = .ok (.iload_n 1, 1) := by decide +kernel
theorem dX8_told_17 : decode cX8_told 17 = .ok (.iaload, 1) := by decide +kernel
theorem dX8_told_18 : decode cX8_told 18 = .ok (.goto 8, 3) := by decide +kernel
theorem dX8_told_21 : decode cX8_told 21 = .ok (.aload_n 0, 1) := by decide +kernel
theorem dX8_told_22 : decode cX8_told 22 = .ok (.iconst 1, 1) := by decide +kernel
theorem dX8_told_23 : decode cX8_told 23 = .ok (.invokevirtual 127, 3) := by decide +kernel
theorem dX8_told_26 : decode cX8_told 26 = .ok (.ireturn, 1) := by decide +kernel
theorem dJ11_isValidCodePoint_9a6ad_0 : decode cJ11_isValidCodePoint_9a6ad 0 = .ok (.iload_n 0, 1) := by decide +kernel
theorem dJ11_isValidCodePoint_9a6ad_1 : decode cJ11_isValidCodePoint_9a6ad 1 = .ok (.bipush 16, 2) := by decide +kernel
theorem dJ11_isValidCodePoint_9a6ad_3 : decode cJ11_isValidCodePoint_9a6ad 3 = .ok (.iushr, 1) := by decide +kernel
theorem dJ11_isValidCodePoint_9a6ad_4 : decode cJ11_isValidCodePoint_9a6ad 4 = .ok (.istore_n 1, 1) := by decide +kernel
theorem dJ11_isValidCodePoint_9a6ad_5 : decode cJ11_isValidCodePoint_9a6ad 5 = .ok (.iload_n 1, 1) := by decide +kernel
theorem dJ11_isValidCodePoint_9a6ad_6 : decode cJ11_isValidCodePoint_9a6ad 6 = .ok (.bipush 17, 2) := by decide +kernel
theorem dJ11_isValidCodePoint_9a6ad_8 : decode cJ11_isValidCodePoint_9a6ad 8 = .ok (.if_icmp .ge 7, 3) := by decide +kernel
theorem dJ11_isValidCodePoint_9a6ad_11 : decode cJ11_isValidCodePoint_9a6ad 11 = .ok (.iconst 1, 1) := by decide +kernel
theorem dJ11_isValidCodePoint_9a6ad_12 : decode cJ11_isValidCodePoint_9a6ad 12 = .ok (.goto 4, 3) := by decide +kernel
theorem dJ11_isValidCodePoint_9a6ad_15 : decode cJ11_isValidCodePoint_9a6ad 15 = .ok (.iconst 0, 1) := by decide +kernel
theorem dJ11_isValidCodePoint_9a6ad_16 : decode cJ11_isValidCodePoint_9a6ad 16 = .ok (.ireturn, 1) := by decide +kernel
theorem dJ11_highSurrogate_5068e_0 : decode cJ11_highSurrogate_5068e 0 = .ok (.iload_n 0, 1) := by decide +kernel
theorem dJ11_highSurrogate_5068e_1 : decode cJ11_highSurrogate_5068e 1 = .ok (.bipush 10, 2) := by decide +kernel
theorem dJ11_highSurrogate_5068e_3 : decode cJ11_highSurrogate_5068e 3 = .ok (.iushr, 1) := by decide +kernel
theorem dJ11_highSurrogate_5068e_4 : decode cJ11_highSurrogate_5068e 4 = .ok (.ldc 110, 2) := by decide +kernel
theorem dJ11_highSurrogate_5068e_6 : decode cJ11_highSurrogate_5068e 6 = .ok (.iadd, 1) := by decide +kernel
theorem dJ11_highSurrogate_5068e_7 : decode cJ11_highSurrogate_5068e 7 = .ok (.i2c, 1) := by decide +kernel
theorem dJ11_highSurrogate_5068e_8 : decode cJ11_highSurrogate_5068e 8 = .ok (.ireturn, 1) := by decide +kernel
theorem dJ11_lowSurrogate_5068e_0 : decode cJ11_lowSurrogate_5068e 0 = .ok (.iload_n 0, 1) := by decide +kernel
theorem dJ11_lowSurrogate_5068e_1 : decode cJ11_lowSurrogate_5068e 1 = .ok (.sipush 1023, 3) := by decide +kernel
theorem dJ11_lowSurrogate_5068e_4 : decode cJ11_lowSurrogate_5068e 4 = .ok (.iand, 1) := by decide +kernel
theorem dJ11_lowSurrogate_5068e_5 : decode cJ11_lowSurrogate_5068e 5 = .ok (.ldc 76, 2) := by decide +kernel
theorem dJ11_lowSurrogate_5068e_7 : decode cJ11_lowSurrogate_5068e 7 = .ok (.iadd, 1) := by decide +kernel
theorem dJ11_lowSurrogate_5068e_8 : decode cJ11_lowSurrogate_5068e 8 = .ok (.i2c, 1) := by decide +kernel
theorem dJ11_lowSurrogate_5068e_9 : decode cJ11_lowSurrogate_5068e 9 = .ok (.ireturn, 1) := by decide +kernel
theorem dJ9_max_7cf53_0 : decode cJ9_max_7cf53 0 = .ok (.iload_n 0, 1) := by decide +kernel
theorem dJ9_max_7cf53_1 : decode cJ9_max_7cf53 1 = .ok (.iload_n 1, 1) := by decide +kernel
theorem dJ9_max_7cf53_2 : decode cJ9_max_7cf53 2 = .ok (.if_icmp .lt 7, 3) := by decide +kernel
theorem dJ9_max_7cf53_5 : decode cJ9_max_7cf53 5 = .ok (.iload_n 0, 1) := by decide +kernel
theorem dJ9_max_7cf53_6 : decode cJ9_max_7cf53 6 = .ok (.goto 4, 3) := by decide +kernel
theorem dJ9_max_7cf53_9 : decode cJ9_max_7cf53 9 = .ok (.iload_n 1, 1) := by decide +kernel
theorem dJ9_max_7cf53_10 : decode cJ9_max_7cf53 10 = .ok (.ireturn, 1) := by decide +kernel
theorem dJ9_min_7cf53_0 : decode cJ9_min_7cf53 0 = .ok (.iload_n 0, 1) := by decide +kernel
theorem dJ9_min_7cf53_1 : decode cJ9_min_7cf53 1 = .ok (.iload_n 1, 1) := by decide +kernel
theorem dJ9_min_7cf53_2 : decode cJ9_min_7cf53 2 = .ok (.if_icmp .gt 7, 3) := by decide +kernel
theorem dJ9_min_7cf53_5 : decode cJ9_min_7cf53 5 = .ok (.iload_n 0, 1) := by decide +kernel
theorem dJ9_min_7cf53_6 : decode cJ9_min_7cf53 6 = .ok (.goto 4, 3) := by decide +kernel
theorem dJ9_min_7cf53_9 : decode cJ9_min_7cf53 9 = .ok (.iload_n 1, 1) := by decide +kernel
theorem dJ9_min_7cf53_10 : decode cJ9_min_7cf53 10 = .ok (.ireturn, 1) := by decide +kernel
theorem dJ0_length_8abf5_0 : decode cJ0_length_8abf5 0 = .ok (.aload_n 0, 1) := by decide +kernel
theorem dJ0_length_8abf5_1 : decode cJ0_length_8abf5 1 = .ok (.getfield 9, 3) := by decide +kernel
theorem dJ0_length_8abf5_4 : decode cJ0_length_8abf5 4 = .ok (.arraylength, 1) := by decide +kernel
theorem dJ0_length_8abf5_5 : decode cJ0_length_8abf5 5 = .ok (.aload_n 0, 1) := by decide +kernel
theorem dJ0_length_8abf5_6 : decode cJ0_length_8abf5 6 = .ok (.invokevirtual 335, 3) := by decide +kernel
theorem dJ0_length_8abf5_9 : decode cJ0_length_8abf5 9 = .ok (.ishr, 1) := by decide +kernel
theorem dJ0_length_8abf5_10 : decode cJ0_length_8abf5 10 = .ok (.ireturn, 1) := by decide +kernel
theorem dJ0_indexOf_0f7a4_0 : decode cJ0_indexOf_0f7a4 0 = .ok (.aload_n 0, 1) := by decide +kernel
theorem dJ0_indexOf_0f7a4_1 : decode cJ0_indexOf_0f7a4 1 = .ok (.iload_n 1, 1) := by decide +kernel
theorem dJ0_indexOf_0f7a4_2 : decode cJ0_indexOf_0f7a4 2 = .ok (.iconst 0, 1) := by decide +kernel
theorem dJ0_indexOf_0f7a4_3 : decode cJ0_indexOf_0f7a4 3 = .ok (.invokevirtual 633, 3) := by decide +kernel
theorem dJ0_indexOf_0f7a4_6 : decode cJ0_indexOf_0f7a4 6 = .ok (.ireturn, 1) := by decide +kernel
theorem dJ0_indexOf_7cf53_0 : decode cJ0_indexOf_7cf53 0 = .ok (.aload_n 0, 1) := by decide +kernel
theorem dJ0_indexOf_7cf53_1 : decode cJ0_indexOf_7cf53 1 = .ok (.invokevirtual 492, 3) := by decide +kernel
theorem dJ0_indexOf_7cf53_4 : decode cJ0_indexOf_7cf53 4 = .ok (.ifCond .eq 19, 3) := by decide +kernel
theorem dJ0_indexOf_7cf53_7 : decode cJ0_indexOf_7cf53 7 = .ok (.aload_n 0, 1) := by decide +kernel
theorem dJ0_indexOf_7cf53_8 : decode cJ0_indexOf_7cf53 8 = .ok (.getfield 9, 3) := by decide +kernel
theorem dJ0_indexOf_7cf53_11 : decode cJ0_indexOf_7cf53 11 = .ok (.iload_n 1, 1) := by decide +kernel
theorem dJ0_indexOf_7cf53_12 : decode cJ0_indexOf_7cf53 12 = .ok (.iload_n 2, 1) := by decide +kernel
theorem dJ0_indexOf_7cf53_13 : decode cJ0_indexOf_7cf53 13 = .ok (.aload_n 0, 1) := by decide +kernel
theorem dJ0_indexOf_7cf53_14 : decode cJ0_indexOf_7cf53 14 = .ok (.invokevirtual 505, 3) := by decide +kernel
theorem dJ0_indexOf_7cf53_17 : decode cJ0_indexOf_7cf53 17 = .ok (.invokestatic 637, 3) := by decide +kernel
theorem dJ0_indexOf_7cf53_20 : decode cJ0_indexOf_7cf53 20 = .ok (.goto 16, 3) := by decide +kernel
theorem dJ0_indexOf_7cf53_23 : decode cJ0_indexOf_7cf53 23 = .ok (.aload_n 0, 1) := by decide +kernel
theorem dJ0_indexOf_7cf53_24 : decode cJ0_indexOf_7cf53 24 = .ok (.getfield 9, 3) := by decide +kernel
theorem dJ0_indexOf_7cf53_27 : decode cJ0_indexOf_7cf53 27 = .ok (.iload_n 1, 1) := by decide +kernel
theorem dJ0_indexOf_7cf53_28 : decode cJ0_indexOf_7cf53 28 = .ok (.iload_n 2, 1) := by decide +kernel
theorem dJ0_indexOf_7cf53_29 : decode cJ0_indexOf_7cf53 29 = .ok (.aload_n 0, 1) := by decide +kernel
theorem dJ0_indexOf_7cf53_30 : decode cJ0_indexOf_7cf53 30 = .ok (.invokevirtual 505, 3) := by decide +kernel
theorem dJ0_indexOf_7cf53_33 : decode cJ0_indexOf_7cf53 33 = .ok (.invokestatic 640, 3) := by decide +kernel
theorem dJ0_indexOf_7cf53_36 : decode cJ0_indexOf_7cf53 36 = .ok (.ireturn, 1) := by decide +kernel
theorem dJ0_coder_7d493_0 : decode cJ0_coder_7d493 0 = .ok (.getstatic 38, 3) := by decide +kernel
theorem dJ0_coder_7d493_3 : decode cJ0_coder_7d493 3 = .ok (.ifCond .eq 10, 3) := by decide +kernel
theorem dJ0_coder_7d493_6 : decode cJ0_coder_7d493 6 = .ok (.aload_n 0, 1) := by decide +kernel
theorem dJ0_coder_7d493_7 : decode cJ0_coder_7d493 7 = .ok (.getfield 15, 3) := by decide +kernel
theorem dJ0_coder_7d493_10 : decode cJ0_coder_7d493 10 = .ok (.goto 4, 3) := by decide +kernel
theorem dJ0_coder_7d493_13 : decode cJ0_coder_7d493 13 = .ok (.iconst 1, 1) := by decide +kernel
theorem dJ0_coder_7d493_14 : decode cJ0_coder_7d493 14 = .ok (.ireturn, 1) := by decide +kernel
theorem dJ0_isLatin1_aae02_0 : decode cJ0_isLatin1_aae02 0 = .ok (.getstatic 38, 3) := by decide +kernel
theorem dJ0_isLatin1_aae02_3 : decode cJ0_isLatin1_aae02 3 = .ok (.ifCond .eq 14, 3) := by decide +kernel
theorem dJ0_isLatin1_aae02_6 : decode cJ0_isLatin1_aae02 6 = .ok (.aload_n 0, 1) := by decide +kernel
theorem dJ0_isLatin1_aae02_7 : decode cJ0_isLatin1_aae02 7 = .ok (.getfield 15, 3) := by decide +kernel
theorem dJ0_isLatin1_aae02_10 : decode cJ0_isLatin1_aae02 10 = .ok (.ifCond .ne 7, 3) := by decide +kernel
theorem dJ0_isLatin1_aae02_13 : decode cJ0_isLatin1_aae02 13 = .ok (.iconst 1, 1) := by decide +kernel
theorem dJ0_isLatin1_aae02_14 : decode cJ0_isLatin1_aae02 14 = .ok (.goto 4, 3) := by decide +kernel
theorem dJ0_isLatin1_aae02_17 : decode cJ0_isLatin1_aae02 17 = .ok (.iconst 0, 1) := by decide +kernel
theorem dJ0_isLatin1_aae02_18 : decode cJ0_isLatin1_aae02 18 = .ok (.ireturn, 1) := by decide +kernel
theorem dJ0_checkBoundsBeginEnd_23922_0 : decode cJ0_checkBoundsBeginEnd_23922 0 = .ok (.iload_n 0, 1) := by decide +kernel
theorem dJ0_checkBoundsBeginEnd_23922_1 : decode cJ0_checkBoundsBeginEnd_23922 1 = .ok (.iload_n 1, 1) := by decide +kernel
theorem dJ0_checkBoundsBeginEnd_23922_2 : decode cJ0_checkBoundsBeginEnd_23922 2 = .ok (.iload_n 2, 1) := by decide +kernel
theorem dJ0_checkBoundsBeginEnd_23922_3 : decode cJ0_checkBoundsBeginEnd_23922 3 = .ok (.getstatic 1053, 3) := by decide +kernel
theorem dJ0_checkBoundsBeginEnd_23922_6 : decode cJ0_checkBoundsBeginEnd_23922 6 = .ok (.invokestatic 1062, 3) := by decide +kernel
theorem dJ0_checkBoundsBeginEnd_23922_9 : decode cJ0_checkBoundsBeginEnd_23922 9 = .ok (.pop, 1) := by decide +kernel
theorem dJ0_checkBoundsBeginEnd_23922_10 : decode cJ0_checkBoundsBeginEnd_23922 10 = .ok (.return_, 1) := by decide +kernel
theorem dJ1_canEncode_9a6ad_0 : decode cJ1_canEncode_9a6ad 0 = .ok (.iload_n 0, 1) := by decide +kernel
theorem dJ1_canEncode_9a6ad_1 : decode cJ1_canEncode_9a6ad 1 = .ok (.ifCond .lt 14, 3) := by decide +kernel
theorem dJ1_canEncode_9a6ad_4 : decode cJ1_canEncode_9a6ad 4 = .ok (.iload_n 0, 1) := by decide +kernel
theorem dJ1_canEncode_9a6ad_5 : decode cJ1_canEncode_9a6ad 5 = .ok (.sipush 255, 3) := by decide +kernel
theorem dJ1_canEncode_9a6ad_8 : decode cJ1_canEncode_9a6ad 8 = .ok (.if_icmp .gt 7, 3) := by decide +kernel
theorem dJ1_canEncode_9a6ad_11 : decode cJ1_canEncode_9a6ad 11 = .ok (.iconst 1, 1) := by decide +kernel
theorem dJ1_canEncode_9a6ad_12 : decode cJ1_canEncode_9a6ad 12 = .ok (.goto 4, 3) := by decide +kernel
theorem dJ1_canEncode_9a6ad_15 : decode cJ1_canEncode_9a6ad 15 = .ok (.iconst 0, 1) := by decide +kernel
theorem dJ1_canEncode_9a6ad_16 : decode cJ1_canEncode_9a6ad 16 = .ok (.ireturn, 1) := by decide +kernel
theorem dJ1_indexOf_4cfef_0 : decode cJ1_indexOf_4cfef 0 = .ok (.iload_n 1, 1) := by decide +kernel
theorem dJ1_indexOf_4cfef_1 : decode cJ1_indexOf_4cfef 1 = .ok (.invokestatic 88, 3) := by decide +kernel
theorem dJ1_indexOf_4cfef_4 : decode cJ1_indexOf_4cfef 4 = .ok (.ifCond .ne 5, 3) := by decide +kernel
theorem dJ1_indexOf_4cfef_7 : decode cJ1_indexOf_4cfef 7 = .ok (.iconst (-1), 1) := by decide +kernel
theorem dJ1_indexOf_4cfef_8 : decode cJ1_indexOf_4cfef 8 = .ok (.ireturn, 1) := by decide +kernel
theorem dJ1_indexOf_4cfef_9 : decode cJ1_indexOf_4cfef 9 = .ok (.iload_n 2, 1) := by decide +kernel
theorem dJ1_indexOf_4cfef_10 : decode cJ1_indexOf_4cfef 10 = .ok (.iconst 0, 1) := by decide +kernel
theorem dJ1_indexOf_4cfef_11 : decode cJ1_indexOf_4cfef 11 = .ok (.invokestatic 92, 3) := by decide +kernel
theorem dJ1_indexOf_4cfef_14 : decode cJ1_indexOf_4cfef 14 = .ok (.istore_n 2, 1) := by decide +kernel
theorem dJ1_indexOf_4cfef_15 : decode cJ1_indexOf_4cfef 15 = .ok (.iload_n 3, 1) := by decide +kernel
theorem dJ1_indexOf_4cfef_16 : decode cJ1_indexOf_4cfef 16 = .ok (.aload_n 0, 1) := by decide +kernel
theorem dJ1_indexOf_4cfef_17 : decode cJ1_indexOf_4cfef 17 = .ok (.arraylength, 1) := by decide +kernel
theorem dJ1_indexOf_4cfef_18 : decode cJ1_indexOf_4cfef 18 = .ok (.invokestatic 38, 3) := by decide +kernel
theorem dJ1_indexOf_4cfef_21 : decode cJ1_indexOf_4cfef 21 = .ok (.istore_n 3, 1) := by decide +kernel
theorem dJ1_indexOf_4cfef_22 : decode cJ1_indexOf_4cfef 22 = .ok (.iload_n 2, 1) := by decide +kernel
theorem dJ1_indexOf_4cfef_23 : decode cJ1_indexOf_4cfef 23 = .ok (.iload_n 3, 1) := by decide +kernel
theorem dJ1_indexOf_4cfef_24 : decode cJ1_indexOf_4cfef 24 = .ok (.if_icmp .lt 5, 3) := by decide +kernel
theorem dJ1_indexOf_4cfef_27 : decode cJ1_indexOf_4cfef 27 = .ok (.iconst (-1), 1) := by decide +kernel
theorem dJ1_indexOf_4cfef_28 : decode cJ1_indexOf_4cfef 28 = .ok (.ireturn, 1) := by decide +kernel
theorem dJ1_indexOf_4cfef_29 : decode cJ1_indexOf_4cfef 29 = .ok (.aload_n 0, 1) := by decide +kernel
theorem dJ1_indexOf_4cfef_30 : decode cJ1_indexOf_4cfef 30 = .ok (.iload_n 1, 1) := by decide +kernel
theorem dJ1_indexOf_4cfef_31 : decode cJ1_indexOf_4cfef 31 = .ok (.iload_n 2, 1) := by decide +kernel
theorem dJ1_indexOf_4cfef_32 : decode cJ1_indexOf_4cfef 32 = .ok (.iload_n 3, 1) := by decide +kernel
theorem dJ1_indexOf_4cfef_33 : decode cJ1_indexOf_4cfef 33 = .ok (.invokestatic 95, 3) := by decide +kernel
theorem dJ1_indexOf_4cfef_36 : decode cJ1_indexOf_4cfef 36 = .ok (.ireturn, 1) := by decide +kernel
theorem dJ1_indexOfChar_4cfef_0 : decode cJ1_indexOfChar_4cfef 0 = .ok (.iload_n 1, 1) := by decide +kernel
theorem dJ1_indexOfChar_4cfef_1 : decode cJ1_indexOfChar_4cfef 1 = .ok (.i2b, 1) := by decide +kernel
theorem dJ1_indexOfChar_4cfef_2 : decode cJ1_indexOfChar_4cfef 2 = .ok (.istore 4, 2) := by decide +kernel
theorem dJ1_indexOfChar_4cfef_4 : decode cJ1_indexOfChar_4cfef 4 = .ok (.iload_n 2, 1) := by decide +kernel
theorem dJ1_indexOfChar_4cfef_5 : decode cJ1_indexOfChar_4cfef 5 = .ok (.istore 5, 2) := by decide +kernel
theorem dJ1_indexOfChar_4cfef_7 : decode cJ1_indexOfChar_4cfef 7 = .ok (.iload 5, 2) := by decide +kernel
theorem dJ1_indexOfChar_4cfef_9 : decode cJ1_indexOfChar_4cfef 9 = .ok (.iload_n 3, 1) := by decide +kernel
theorem dJ1_indexOfChar_4cfef_10 : decode cJ1_indexOfChar_4cfef 10 = .ok (.if_icmp .ge 21, 3) := by decide +kernel
theorem dJ1_indexOfChar_4cfef_13 : decode cJ1_indexOfChar_4cfef 13 = .ok (.aload_n 0, 1) := by decide +kernel
theorem dJ1_indexOfChar_4cfef_14 : decode cJ1_indexOfChar_4cfef 14 = .ok (.iload 5, 2) := by decide +kernel
theorem dJ1_indexOfChar_4cfef_16 : decode cJ1_indexOfChar_4cfef 16 = .ok (.baload, 1) := by decide +kernel
theorem dJ1_indexOfChar_4cfef_17 : decode cJ1_indexOfChar_4cfef 17 = .ok (.iload 4, 2) := by decide +kernel
theorem dJ1_indexOfChar_4cfef_19 : decode cJ1_indexOfChar_4cfef 19 = .ok (.if_icmp .ne 6, 3) := by decide +kernel
theorem dJ1_indexOfChar_4cfef_22 : decode cJ1_indexOfChar_4cfef 22 = .ok (.iload 5, 2) := by decide +kernel
theorem dJ1_indexOfChar_4cfef_24 : decode cJ1_indexOfChar_4cfef 24 = .ok (.ireturn, 1) := by decide +kernel
theorem dJ1_indexOfChar_4cfef_25 : decode cJ1_indexOfChar_4cfef 25 = .ok (.iinc 5 1, 3) := by decide +kernel
theorem dJ1_indexOfChar_4cfef_28 : decode cJ1_indexOfChar_4cfef 28 = .ok (.goto (-21), 3) := by decide +kernel
theorem dJ1_indexOfChar_4cfef_31 : decode cJ1_indexOfChar_4cfef 31 = .ok (.iconst (-1), 1) := by decide +kernel
theorem dJ1_indexOfChar_4cfef_32 : decode cJ1_indexOfChar_4cfef 32 = .ok (.ireturn, 1) := by decide +kernel
theorem dJ2_getChar_3b067_0 : decode cJ2_getChar_3b067 0 = .ok (.getstatic 44, 3) := by decide +kernel
theorem dJ2_getChar_3b067_3 : decode cJ2_getChar_3b067 3 = .ok (.ifCond .ne 25, 3) := by decide +kernel
theorem dJ2_getChar_3b067_6 : decode cJ2_getChar_3b067 6 = .ok (.iload_n 1, 1) := by decide +kernel
theorem dJ2_getChar_3b067_7 : decode cJ2_getChar_3b067 7 = .ok (.ifCond .lt 11, 3) := by decide +kernel
theorem dJ2_getChar_3b067_10 : decode cJ2_getChar_3b067 10 = .ok (.iload_n 1, 1) := by decide +kernel
theorem dJ2_getChar_3b067_11 : decode cJ2_getChar_3b067 11 = .ok (.aload_n 0, 1) := by decide +kernel
theorem dJ2_getChar_3b067_12 : decode cJ2_getChar_3b067 12 = .ok (.invokestatic 48, 3) := by decide +kernel
theorem dJ2_getChar_3b067_15 : decode cJ2_getChar_3b067 15 = .ok (.if_icmp .lt 13, 3) := by decide +kernel
theorem dJ2_getChar_3b067_18 : decode cJ2_getChar_3b067 18 = .ok (.new 52, 3) := by decide +kernel
theorem dJ2_getChar_3b067_21 : decode cJ2_getChar_3b067 21 = .ok (.dup, 1) := by decide +kernel
theorem dJ2_getChar_3b067_22 : decode cJ2_getChar_3b067 22 = .ok (.ldc 54, 2) := by decide +kernel
theorem dJ2_getChar_3b067_24 : decode cJ2_getChar_3b067 24 = .ok (.invokespecial 56, 3) := by decide +kernel
theorem dJ2_getChar_3b067_27 : decode cJ2_getChar_3b067 27 = .ok (.athrow, 1) := by decide +kernel
theorem dJ2_getChar_3b067_28 : decode cJ2_getChar_3b067 28 = .ok (.iload_n 1, 1) := by decide +kernel
theorem dJ2_getChar_3b067_29 : decode cJ2_getChar_3b067 29 = .ok (.iconst 1, 1) := by decide +kernel
theorem dJ2_getChar_3b067_30 : decode cJ2_getChar_3b067 30 = .ok (.ishl, 1) := by decide +kernel
theorem dJ2_getChar_3b067_31 : decode cJ2_getChar_3b067 31 = .ok (.istore_n 1, 1) := by decide +kernel
theorem dJ2_getChar_3b067_32 : decode cJ2_getChar_3b067 32 = .ok (.aload_n 0, 1) := by decide +kernel
theorem dJ2_getChar_3b067_33 : decode cJ2_getChar_3b067 33 = .ok (.iload_n 1, 1) := by decide +kernel
theorem dJ2_getChar_3b067_34 : decode cJ2_getChar_3b067 34 = .ok (.iinc 1 1, 3) := by decide +kernel
theorem dJ2_getChar_3b067_37 : decode cJ2_getChar_3b067 37 = .ok (.baload, 1) := by decide +kernel
theorem dJ2_getChar_3b067_38 : decode cJ2_getChar_3b067 38 = .ok (.sipush 255, 3) := by decide +kernel
theorem dJ2_getChar_3b067_41 : decode cJ2_getChar_3b067 41 = .ok (.iand, 1) := by decide +kernel
theorem dJ2_getChar_3b067_42 : decode cJ2_getChar_3b067 42 = .ok (.getstatic 59, 3) := by decide +kernel
theorem dJ2_getChar_3b067_45 : decode cJ2_getChar_3b067 45 = .ok (.ishl, 1) := by decide +kernel
theorem dJ2_getChar_3b067_46 : decode cJ2_getChar_3b067 46 = .ok (.aload_n 0, 1) := by decide +kernel
theorem dJ2_getChar_3b067_47 : decode cJ2_getChar_3b067 47 = .ok (.iload_n 1, 1) := by decide +kernel
theorem dJ2_getChar_3b067_48 : decode cJ2_getChar_3b067 48 = .ok (.baload, 1) := by decide +kernel
theorem dJ2_getChar_3b067_49 : decode cJ2_getChar_3b067 49 = .ok (.sipush 255, 3) := by decide +kernel
theorem dJ2_getChar_3b067_52 : decode cJ2_getChar_3b067 52 = .ok (.iand, 1) := by decide +kernel
theorem dJ2_getChar_3b067_53 : decode cJ2_getChar_3b067 53 = .ok (.getstatic 63, 3) := by decide +kernel
theorem dJ2_getChar_3b067_56 : decode cJ2_getChar_3b067 56 = .ok (.ishl, 1) := by decide +kernel
theorem dJ2_getChar_3b067_57 : decode cJ2_getChar_3b067 57 = .ok (.ior, 1) := by decide +kernel
theorem dJ2_getChar_3b067_58 : decode cJ2_getChar_3b067 58 = .ok (.i2c, 1) := by decide +kernel
theorem dJ2_getChar_3b067_59 : decode cJ2_getChar_3b067 59 = .ok (.ireturn, 1) := by decide +kernel
theorem dJ2_length_9d52b_0 : decode cJ2_length_9d52b 0 = .ok (.aload_n 0, 1) := by decide +kernel
theorem dJ2_length_9d52b_1 : decode cJ2_length_9d52b 1 = .ok (.arraylength, 1) := by decide +kernel
theorem dJ2_length_9d52b_2 : decode cJ2_length_9d52b 2 = .ok (.iconst 1, 1) := by decide +kernel
theorem dJ2_length_9d52b_3 : decode cJ2_length_9d52b 3 = .ok (.ishr, 1) := by decide +kernel
theorem dJ2_length_9d52b_4 : decode cJ2_length_9d52b 4 = .ok (.ireturn, 1) := by decide +kernel
theorem dJ2_indexOf_4cfef_0 : decode cJ2_indexOf_4cfef 0 = .ok (.iload_n 2, 1) := by decide +kernel
theorem dJ2_indexOf_4cfef_1 : decode cJ2_indexOf_4cfef 1 = .ok (.iconst 0, 1) := by decide +kernel
theorem dJ2_indexOf_4cfef_2 : decode cJ2_indexOf_4cfef 2 = .ok (.invokestatic 224, 3) := by decide +kernel
theorem dJ2_indexOf_4cfef_5 : decode cJ2_indexOf_4cfef 5 = .ok (.istore_n 2, 1) := by decide +kernel
theorem dJ2_indexOf_4cfef_6 : decode cJ2_indexOf_4cfef 6 = .ok (.iload_n 3, 1) := by decide +kernel
theorem dJ2_indexOf_4cfef_7 : decode cJ2_indexOf_4cfef 7 = .ok (.aload_n 0, 1) := by decide +kernel
theorem dJ2_indexOf_4cfef_8 : decode cJ2_indexOf_4cfef 8 = .ok (.arraylength, 1) := by decide +kernel
theorem dJ2_indexOf_4cfef_9 : decode cJ2_indexOf_4cfef 9 = .ok (.iconst 1, 1) := by decide +kernel
theorem dJ2_indexOf_4cfef_10 : decode cJ2_indexOf_4cfef 10 = .ok (.ishr, 1) := by decide +kernel
theorem dJ2_indexOf_4cfef_11 : decode cJ2_indexOf_4cfef 11 = .ok (.invokestatic 183, 3) := by decide +kernel
theorem dJ2_indexOf_4cfef_14 : decode cJ2_indexOf_4cfef 14 = .ok (.istore_n 3, 1) := by decide +kernel
theorem dJ2_indexOf_4cfef_15 : decode cJ2_indexOf_4cfef 15 = .ok (.iload_n 2, 1) := by decide +kernel
theorem dJ2_indexOf_4cfef_16 : decode cJ2_indexOf_4cfef 16 = .ok (.iload_n 3, 1) := by decide +kernel
theorem dJ2_indexOf_4cfef_17 : decode cJ2_indexOf_4cfef 17 = .ok (.if_icmp .lt 5, 3) := by decide +kernel
theorem dJ2_indexOf_4cfef_20 : decode cJ2_indexOf_4cfef 20 = .ok (.iconst (-1), 1) := by decide +kernel
theorem dJ2_indexOf_4cfef_21 : decode cJ2_indexOf_4cfef 21 = .ok (.ireturn, 1) := by decide +kernel
theorem dJ2_indexOf_4cfef_22 : decode cJ2_indexOf_4cfef 22 = .ok (.iload_n 1, 1) := by decide +kernel
theorem dJ2_indexOf_4cfef_23 : decode cJ2_indexOf_4cfef 23 = .ok (.ldc 227, 2) := by decide +kernel
theorem dJ2_indexOf_4cfef_25 : decode cJ2_indexOf_4cfef 25 = .ok (.if_icmp .ge 11, 3) := by decide +kernel
theorem dJ2_indexOf_4cfef_28 : decode cJ2_indexOf_4cfef 28 = .ok (.aload_n 0, 1) := by decide +kernel
theorem dJ2_indexOf_4cfef_29 : decode cJ2_indexOf_4cfef 29 = .ok (.iload_n 1, 1) := by decide +kernel
theorem dJ2_indexOf_4cfef_30 : decode cJ2_indexOf_4cfef 30 = .ok (.iload_n 2, 1) := by decide +kernel
theorem dJ2_indexOf_4cfef_31 : decode cJ2_indexOf_4cfef 31 = .ok (.iload_n 3, 1) := by decide +kernel
theorem dJ2_indexOf_4cfef_32 : decode cJ2_indexOf_4cfef 32 = .ok (.invokestatic 228, 3) := by decide +kernel
theorem dJ2_indexOf_4cfef_35 : decode cJ2_indexOf_4cfef 35 = .ok (.ireturn, 1) := by decide +kernel
theorem dJ2_indexOf_4cfef_36 : decode cJ2_indexOf_4cfef 36 = .ok (.aload_n 0, 1) := by decide +kernel
theorem dJ2_indexOf_4cfef_37 : decode cJ2_indexOf_4cfef 37 = .ok (.iload_n 1, 1) := by decide +kernel
theorem dJ2_indexOf_4cfef_38 : decode cJ2_indexOf_4cfef 38 = .ok (.iload_n 2, 1) := by decide +kernel
theorem dJ2_indexOf_4cfef_39 : decode cJ2_indexOf_4cfef 39 = .ok (.iload_n 3, 1) := by decide +kernel
theorem dJ2_indexOf_4cfef_40 : decode cJ2_indexOf_4cfef 40 = .ok (.invokestatic 232, 3) := by decide +kernel
theorem dJ2_indexOf_4cfef_43 : decode cJ2_indexOf_4cfef 43 = .ok (.ireturn, 1) := by decide +kernel
theorem dJ2_indexOfChar_4cfef_0 : decode cJ2_indexOfChar_4cfef 0 = .ok (.iload_n 2, 1) := by decide +kernel
theorem dJ2_indexOfChar_4cfef_1 : decode cJ2_indexOfChar_4cfef 1 = .ok (.iload_n 3, 1) := by decide +kernel
theorem dJ2_indexOfChar_4cfef_2 : decode cJ2_indexOfChar_4cfef 2 = .ok (.aload_n 0, 1) := by decide +kernel
theorem dJ2_indexOfChar_4cfef_3 : decode cJ2_indexOfChar_4cfef 3 = .ok (.invokestatic 96, 3) := by decide +kernel
theorem dJ2_indexOfChar_4cfef_6 : decode cJ2_indexOfChar_4cfef 6 = .ok (.aload_n 0, 1) := by decide +kernel
theorem dJ2_indexOfChar_4cfef_7 : decode cJ2_indexOfChar_4cfef 7 = .ok (.iload_n 1, 1) := by decide +kernel
theorem dJ2_indexOfChar_4cfef_8 : decode cJ2_indexOfChar_4cfef 8 = .ok (.iload_n 2, 1) := by decide +kernel
theorem dJ2_indexOfChar_4cfef_9 : decode cJ2_indexOfChar_4cfef 9 = .ok (.iload_n 3, 1) := by decide +kernel
theorem dJ2_indexOfChar_4cfef_10 : decode cJ2_indexOfChar_4cfef 10 = .ok (.invokestatic 244, 3) := by decide +kernel
theorem dJ2_indexOfChar_4cfef_13 : decode cJ2_indexOfChar_4cfef 13 = .ok (.ireturn, 1) := by decide +kernel
theorem dJ2_indexOfCharUnsafe_4cfef_0 : decode cJ2_indexOfCharUnsafe_4cfef 0 = .ok (.iload_n 2, 1) := by decide +kernel
theorem dJ2_indexOfCharUnsafe_4cfef_1 : decode cJ2_indexOfCharUnsafe_4cfef 1 = .ok (.istore 4, 2) := by decide +kernel
theorem dJ2_indexOfCharUnsafe_4cfef_3 : decode cJ2_indexOfCharUnsafe_4cfef 3 = .ok (.iload 4, 2) := by decide +kernel
theorem dJ2_indexOfCharUnsafe_4cfef_5 : decode cJ2_indexOfCharUnsafe_4cfef 5 = .ok (.iload_n 3, 1) := by decide +kernel
theorem dJ2_indexOfCharUnsafe_4cfef_6 : decode cJ2_indexOfCharUnsafe_4cfef 6 = .ok (.if_icmp .ge 22, 3) := by decide +kernel
theorem dJ2_indexOfCharUnsafe_4cfef_9 : decode cJ2_indexOfCharUnsafe_4cfef 9 = .ok (.aload_n 0, 1) := by decide +kernel
theorem dJ2_indexOfCharUnsafe_4cfef_10 : decode cJ2_indexOfCharUnsafe_4cfef 10 = .ok (.iload 4, 2) := by decide +kernel
theorem dJ2_indexOfCharUnsafe_4cfef_12 : decode cJ2_indexOfCharUnsafe_4cfef 12 = .ok (.invokestatic 71, 3) := by decide +kernel
theorem dJ2_indexOfCharUnsafe_4cfef_15 : decode cJ2_indexOfCharUnsafe_4cfef 15 = .ok (.iload_n 1, 1) := by decide +kernel
theorem dJ2_indexOfCharUnsafe_4cfef_16 : decode cJ2_indexOfCharUnsafe_4cfef 16 = .ok (.if_icmp .ne 6, 3) := by decide +kernel
theorem dJ2_indexOfCharUnsafe_4cfef_19 : decode cJ2_indexOfCharUnsafe_4cfef 19 = .ok (.iload 4, 2) := by decide +kernel
theorem dJ2_indexOfCharUnsafe_4cfef_21 : decode cJ2_indexOfCharUnsafe_4cfef 21 = .ok (.ireturn, 1) := by decide +kernel
theorem dJ2_indexOfCharUnsafe_4cfef_22 : decode cJ2_indexOfCharUnsafe_4cfef 22 = .ok (.iinc 4 1, 3) := by decide +kernel
theorem dJ2_indexOfCharUnsafe_4cfef_25 : decode cJ2_indexOfCharUnsafe_4cfef 25 = .ok (.goto (-22), 3) := by decide +kernel
theorem dJ2_indexOfCharUnsafe_4cfef_28 : decode cJ2_indexOfCharUnsafe_4cfef 28 = .ok (.iconst (-1), 1) := by decide +kernel
theorem dJ2_indexOfCharUnsafe_4cfef_29 : decode cJ2_indexOfCharUnsafe_4cfef 29 = .ok (.ireturn, 1) := by decide +kernel
theorem dJ2_indexOfSupplementary_4cfef_0 : decode cJ2_indexOfSupplementary_4cfef 0 = .ok (.iload_n 1, 1) := by decide +kernel
theorem dJ2_indexOfSupplementary_4cfef_1 : decode cJ2_indexOfSupplementary_4cfef 1 = .ok (.invokestatic 164, 3) := by decide +kernel
theorem dJ2_indexOfSupplementary_4cfef_4 : decode cJ2_indexOfSupplementary_4cfef 4 = .ok (.ifCond .eq 65, 3) := by decide +kernel
theorem dJ2_indexOfSupplementary_4cfef_7 : decode cJ2_indexOfSupplementary_4cfef 7 = .ok (.iload_n 1, 1) := by decide +kernel
theorem dJ2_indexOfSupplementary_4cfef_8 : decode cJ2_indexOfSupplementary_4cfef 8 = .ok (.invokestatic 157, 3) := by decide +kernel
theorem dJ2_indexOfSupplementary_4cfef_11 : decode cJ2_indexOfSupplementary_4cfef 11 = .ok (.istore 4, 2) := by decide +kernel
theorem dJ2_indexOfSupplementary_4cfef_13 : decode cJ2_indexOfSupplementary_4cfef 13 = .ok (.iload_n 1, 1) := by decide +kernel
theorem dJ2_indexOfSupplementary_4cfef_14 : decode cJ2_indexOfSupplementary_4cfef 14 = .ok (.invokestatic 161, 3) := by decide +kernel
theorem dJ2_indexOfSupplementary_4cfef_17 : decode cJ2_indexOfSupplementary_4cfef 17 = .ok (.istore 5, 2) := by decide +kernel
theorem dJ2_indexOfSupplementary_4cfef_19 : decode cJ2_indexOfSupplementary_4cfef 19 = .ok (.iload_n 2, 1) := by decide +kernel
theorem dJ2_indexOfSupplementary_4cfef_20 : decode cJ2_indexOfSupplementary_4cfef 20 = .ok (.iload_n 3, 1) := by decide +kernel
theorem dJ2_indexOfSupplementary_4cfef_21 : decode cJ2_indexOfSupplementary_4cfef 21 = .ok (.aload_n 0, 1) := by decide +kernel
theorem dJ2_indexOfSupplementary_4cfef_22 : decode cJ2_indexOfSupplementary_4cfef 22 = .ok (.invokestatic 96, 3) := by decide +kernel
theorem dJ2_indexOfSupplementary_4cfef_25 : decode cJ2_indexOfSupplementary_4cfef 25 = .ok (.iload_n 2, 1) := by decide +kernel
theorem dJ2_indexOfSupplementary_4cfef_26 : decode cJ2_indexOfSupplementary_4cfef 26 = .ok (.istore 6, 2) := by decide +kernel
theorem dJ2_indexOfSupplementary_4cfef_28 : decode cJ2_indexOfSupplementary_4cfef 28 = .ok (.iload 6, 2) := by decide +kernel
theorem dJ2_indexOfSupplementary_4cfef_30 : decode cJ2_indexOfSupplementary_4cfef 30 = .ok (.iload_n 3, 1) := by decide +kernel
theorem dJ2_indexOfSupplementary_4cfef_31 : decode cJ2_indexOfSupplementary_4cfef 31 = .ok (.iconst 1, 1) := by decide +kernel
theorem dJ2_indexOfSupplementary_4cfef_32 : decode cJ2_indexOfSupplementary_4cfef 32 = .ok (.isub, 1) := by decide +kernel
theorem dJ2_indexOfSupplementary_4cfef_33 : decode cJ2_indexOfSupplementary_4cfef 33 = .ok (.if_icmp .ge 36, 3) := by decide +kernel
theorem dJ2_indexOfSupplementary_4cfef_36 : decode cJ2_indexOfSupplementary_4cfef 36 = .ok (.aload_n 0, 1) := by decide +kernel
theorem dJ2_indexOfSupplementary_4cfef_37 : decode cJ2_indexOfSupplementary_4cfef 37 = .ok (.iload 6, 2) := by decide +kernel
theorem dJ2_indexOfSupplementary_4cfef_39 : decode cJ2_indexOfSupplementary_4cfef 39 = .ok (.invokestatic 71, 3) := by decide +kernel
theorem dJ2_indexOfSupplementary_4cfef_42 : decode cJ2_indexOfSupplementary_4cfef 42 = .ok (.iload 4, 2) := by decide +kernel
theorem dJ2_indexOfSupplementary_4cfef_44 : decode cJ2_indexOfSupplementary_4cfef 44 = .ok (.if_icmp .ne 19, 3) := by decide +kernel
theorem dJ2_indexOfSupplementary_4cfef_47 : decode cJ2_indexOfSupplementary_4cfef 47 = .ok (.aload_n 0, 1) := by decide +kernel
theorem dJ2_indexOfSupplementary_4cfef_48 : decode cJ2_indexOfSupplementary_4cfef 48 = .ok (.iload 6, 2) := by decide +kernel
theorem dJ2_indexOfSupplementary_4cfef_50 : decode cJ2_indexOfSupplementary_4cfef 50 = .ok (.iconst 1, 1) := by decide +kernel
theorem dJ2_indexOfSupplementary_4cfef_51 : decode cJ2_indexOfSupplementary_4cfef 51 = .ok (.iadd, 1) := by decide +kernel
theorem dJ2_indexOfSupplementary_4cfef_52 : decode cJ2_indexOfSupplementary_4cfef 52 = .ok (.invokestatic 71, 3) := by decide +kernel
theorem dJ2_indexOfSupplementary_4cfef_55 : decode cJ2_indexOfSupplementary_4cfef 55 = .ok (.iload 5, 2) := by decide +kernel
theorem dJ2_indexOfSupplementary_4cfef_57 : decode cJ2_indexOfSupplementary_4cfef 57 = .ok (.if_icmp .ne 6, 3) := by decide +kernel
theorem dJ2_indexOfSupplementary_4cfef_60 : decode cJ2_indexOfSupplementary_4cfef 60 = .ok (.iload 6, 2) := by decide +kernel
theorem dJ2_indexOfSupplementary_4cfef_62 : decode cJ2_indexOfSupplementary_4cfef 62 = .ok (.ireturn, 1) := by decide +kernel
theorem dJ2_indexOfSupplementary_4cfef_63 : decode cJ2_indexOfSupplementary_4cfef 63 = .ok (.iinc 6 1, 3) := by decide +kernel
theorem dJ2_indexOfSupplementary_4cfef_66 : decode cJ2_indexOfSupplementary_4cfef 66 = .ok (.goto (-38), 3) := by decide +kernel
theorem dJ2_indexOfSupplementary_4cfef_69 : decode cJ2_indexOfSupplementary_4cfef 69 = .ok (.iconst (-1), 1) := by decide +kernel
theorem dJ2_indexOfSupplementary_4cfef_70 : decode cJ2_indexOfSupplementary_4cfef 70 = .ok (.ireturn, 1) := by decide +kernel
theorem dJ2_checkBoundsBeginEnd_d044e_0 : decode cJ2_checkBoundsBeginEnd_d044e 0 = .ok (.iload_n 0, 1) := by decide +kernel
theorem dJ2_checkBoundsBeginEnd_d044e_1 : decode cJ2_checkBoundsBeginEnd_d044e 1 = .ok (.iload_n 1, 1) := by decide +kernel
theorem dJ2_checkBoundsBeginEnd_d044e_2 : decode cJ2_checkBoundsBeginEnd_d044e 2 = .ok (.aload_n 2, 1) := by decide +kernel
theorem dJ2_checkBoundsBeginEnd_d044e_3 : decode cJ2_checkBoundsBeginEnd_d044e 3 = .ok (.invokestatic 48, 3) := by decide +kernel
theorem dJ2_checkBoundsBeginEnd_d044e_6 : decode cJ2_checkBoundsBeginEnd_d044e 6 = .ok (.invokestatic 241, 3) := by decide +kernel
theorem dJ2_checkBoundsBeginEnd_d044e_9 : decode cJ2_checkBoundsBeginEnd_d044e 9 = .ok (.return_, 1) := by decide +kernel
theorem dJ3_checkFromToIndex_8c36e_0 : decode cJ3_checkFromToIndex_8c36e 0 = .ok (.iload_n 0, 1) := by decide +kernel
theorem dJ3_checkFromToIndex_8c36e_1 : decode cJ3_checkFromToIndex_8c36e 1 = .ok (.ifCond .lt 13, 3) := by decide +kernel
theorem dJ3_checkFromToIndex_8c36e_4 : decode cJ3_checkFromToIndex_8c36e 4 = .ok (.iload_n 0, 1) := by decide +kernel
theorem dJ3_checkFromToIndex_8c36e_5 : decode cJ3_checkFromToIndex_8c36e 5 = .ok (.iload_n 1, 1) := by decide +kernel
theorem dJ3_checkFromToIndex_8c36e_6 : decode cJ3_checkFromToIndex_8c36e 6 = .ok (.if_icmp .gt 8, 3) := by decide +kernel
theorem dJ3_checkFromToIndex_8c36e_9 : decode cJ3_checkFromToIndex_8c36e 9 = .ok (.iload_n 1, 1) := by decide +kernel
theorem dJ3_checkFromToIndex_8c36e_10 : decode cJ3_checkFromToIndex_8c36e 10 = .ok (.iload_n 2, 1) := by decide +kernel
theorem dJ3_checkFromToIndex_8c36e_11 : decode cJ3_checkFromToIndex_8c36e 11 = .ok (.if_icmp .le 11, 3) := by decide +kernel
theorem dJ3_checkFromToIndex_8c36e_14 : decode cJ3_checkFromToIndex_8c36e 14 = .ok (.aload_n 3, 1) := by decide +kernel
theorem dJ3_checkFromToIndex_8c36e_15 : decode cJ3_checkFromToIndex_8c36e 15 = .ok (.iload_n 0, 1) := by decide +kernel
theorem dJ3_checkFromToIndex_8c36e_16 : decode cJ3_checkFromToIndex_8c36e 16 = .ok (.iload_n 1, 1) := by decide +kernel
theorem dJ3_checkFromToIndex_8c36e_17 : decode cJ3_checkFromToIndex_8c36e 17 = .ok (.iload_n 2, 1) := by decide +kernel
theorem dJ3_checkFromToIndex_8c36e_18 : decode cJ3_checkFromToIndex_8c36e 18 = .ok (.invokestatic 99, 3) := by decide +kernel
theorem dJ3_checkFromToIndex_8c36e_21 : decode cJ3_checkFromToIndex_8c36e 21 = .ok (.athrow, 1) := by decide +kernel
theorem dJ3_checkFromToIndex_8c36e_22 : decode cJ3_checkFromToIndex_8c36e 22 = .ok (.iload_n 0, 1) := by decide +kernel
theorem dJ3_checkFromToIndex_8c36e_23 : decode cJ3_checkFromToIndex_8c36e 23 = .ok (.ireturn, 1) := by decide +kernel
theorem dL_law_0 : decode cL_law 0 = .ok (.new 7, 3) := by decide +kernel
theorem dL_law_3 : decode cL_law 3 = .ok (.dup, 1) := by decide +kernel
theorem dL_law_4 : decode cL_law 4 = .ok (.invokespecial 9, 3) := by decide +kernel
theorem dL_law_7 : decode cL_law 7 = .ok (.astore_n 1, 1) := by decide +kernel
theorem dL_law_8 : decode cL_law 8 = .ok (.new 10, 3) := by decide +kernel
theorem dL_law_11 : decode cL_law 11 = .ok (.dup, 1) := by decide +kernel
theorem dL_law_12 : decode cL_law 12 = .ok (.invokespecial 12, 3) := by decide +kernel
theorem dL_law_15 : decode cL_law 15 = .ok (.astore_n 2, 1) := by decide +kernel
theorem dL_law_16 : decode cL_law 16 = .ok (.iconst 0, 1) := by decide +kernel
theorem dL_law_17 : decode cL_law 17 = .ok (.istore_n 3, 1) := by decide +kernel
theorem dL_law_18 : decode cL_law 18 = .ok (.iload_n 3, 1) := by decide +kernel
theorem dL_law_19 : decode cL_law 19 = .ok (.aload_n 0, 1) := by decide +kernel
theorem dL_law_20 : decode cL_law 20 = .ok (.arraylength, 1) := by decide +kernel
theorem dL_law_21 : decode cL_law 21 = .ok (.bipush 6, 2) := by decide +kernel
theorem dL_law_23 : decode cL_law 23 = .ok (.isub, 1) := by decide +kernel
theorem dL_law_24 : decode cL_law 24 = .ok (.if_icmp .gt 1325, 3) := by decide +kernel
theorem dL_law_27 : decode cL_law 27 = .ok (.aload_n 0, 1) := by decide +kernel
theorem dL_law_28 : decode cL_law 28 = .ok (.iload_n 3, 1) := by decide +kernel
theorem dL_law_29 : decode cL_law 29 = .ok (.iaload, 1) := by decide +kernel
theorem dL_law_30 : decode cL_law 30 = .ok (.bipush 63, 2) := by decide +kernel
theorem dL_law_32 : decode cL_law 32 = .ok (.iand, 1) := by decide +kernel
theorem dL_law_33 : decode cL_law 33 = .ok (.tableswitch 1310 0 34 #[155, 198, 231, 274, 307, 340, 373, 416, 449, 512, 535, 598, 611, 634, 657, 700, 723, 746, 769, 802, 845, 878, 931, 954, 997, 1020, 1063, 1106, 1169, 1192, 1205, 1218, 1241, 1264, 1287], 155) := by decide +kernel
theorem dL_law_188 : decode cL_law 188 = .ok (.aload_n 1, 1) := by decide +kernel
theorem dL_law_189 : decode cL_law 189 = .ok (.aload_n 0, 1) := by decide +kernel
theorem dL_law_190 : decode cL_law 190 = .ok (.iload_n 3, 1) := by decide +kernel
theorem dL_law_191 : decode cL_law 191 = .ok (.iconst 1, 1) := by decide +kernel
theorem dL_law_192 : decode cL_law 192 = .ok (.iadd, 1) := by decide +kernel
theorem dL_law_193 : decode cL_law 193 = .ok (.iaload, 1) := by decide +kernel
theorem dL_law_194 : decode cL_law 194 = .ok (.aload_n 0, 1) := by decide +kernel
theorem dL_law_195 : decode cL_law 195 = .ok (.iload_n 3, 1) := by decide +kernel
theorem dL_law_196 : decode cL_law 196 = .ok (.iconst 2, 1) := by decide +kernel
theorem dL_law_197 : decode cL_law 197 = .ok (.iadd, 1) := by decide +kernel
theorem dL_law_198 : decode cL_law 198 = .ok (.iaload, 1) := by decide +kernel
theorem dL_law_199 : decode cL_law 199 = .ok (.aload_n 0, 1) := by decide +kernel
theorem dL_law_200 : decode cL_law 200 = .ok (.iload_n 3, 1) := by decide +kernel
theorem dL_law_201 : decode cL_law 201 = .ok (.iconst 3, 1) := by decide +kernel
theorem dL_law_202 : decode cL_law 202 = .ok (.iadd, 1) := by decide +kernel
theorem dL_law_203 : decode cL_law 203 = .ok (.iaload, 1) := by decide +kernel
theorem dL_law_204 : decode cL_law 204 = .ok (.invokevirtual 13, 3) := by decide +kernel
theorem dL_law_207 : decode cL_law 207 = .ok (.aload_n 2, 1) := by decide +kernel
theorem dL_law_208 : decode cL_law 208 = .ok (.aload_n 0, 1) := by decide +kernel
theorem dL_law_209 : decode cL_law 209 = .ok (.iload_n 3, 1) := by decide +kernel
theorem dL_law_210 : decode cL_law 210 = .ok (.iconst 1, 1) := by decide +kernel
theorem dL_law_211 : decode cL_law 211 = .ok (.iadd, 1) := by decide +kernel
theorem dL_law_212 : decode cL_law 212 = .ok (.iaload, 1) := by decide +kernel
theorem dL_law_213 : decode cL_law 213 = .ok (.aload_n 0, 1) := by decide +kernel
theorem dL_law_214 : decode cL_law 214 = .ok (.iload_n 3, 1) := by decide +kernel
theorem dL_law_215 : decode cL_law 215 = .ok (.iconst 2, 1) := by decide +kernel
theorem dL_law_216 : decode cL_law 216 = .ok (.iadd, 1) := by decide +kernel
theorem dL_law_217 : decode cL_law 217 = .ok (.iaload, 1) := by decide +kernel
theorem dL_law_218 : decode cL_law 218 = .ok (.aload_n 0, 1) := by decide +kernel
theorem dL_law_219 : decode cL_law 219 = .ok (.iload_n 3, 1) := by decide +kernel
theorem dL_law_220 : decode cL_law 220 = .ok (.iconst 3, 1) := by decide +kernel
theorem dL_law_221 : decode cL_law 221 = .ok (.iadd, 1) := by decide +kernel
theorem dL_law_222 : decode cL_law 222 = .ok (.iaload, 1) := by decide +kernel
theorem dL_law_223 : decode cL_law 223 = .ok (.invokevirtual 17, 3) := by decide +kernel
theorem dL_law_226 : decode cL_law 226 = .ok (.if_icmp .eq 1117, 3) := by decide +kernel
theorem dL_law_229 : decode cL_law 229 = .ok (.iconst 0, 1) := by decide +kernel
theorem dL_law_230 : decode cL_law 230 = .ok (.ireturn, 1) := by decide +kernel
theorem dL_law_231 : decode cL_law 231 = .ok (.aload_n 1, 1) := by decide +kernel
theorem dL_law_232 : decode cL_law 232 = .ok (.aload_n 0, 1) := by decide +kernel
theorem dL_law_233 : decode cL_law 233 = .ok (.iload_n 3, 1) := by decide +kernel
theorem dL_law_234 : decode cL_law 234 = .ok (.iconst 1, 1) := by decide +kernel
theorem dL_law_235 : decode cL_law 235 = .ok (.iadd, 1) := by decide +kernel
theorem dL_law_236 : decode cL_law 236 = .ok (.iaload, 1) := by decide +kernel
theorem dL_law_237 : decode cL_law 237 = .ok (.aload_n 0, 1) := by decide +kernel
theorem dL_law_238 : decode cL_law 238 = .ok (.iload_n 3, 1) := by decide +kernel
theorem dL_law_239 : decode cL_law 239 = .ok (.iconst 2, 1) := by decide +kernel
theorem dL_law_240 : decode cL_law 240 = .ok (.iadd, 1) := by decide +kernel
theorem dL_law_241 : decode cL_law 241 = .ok (.iaload, 1) := by decide +kernel
theorem dL_law_242 : decode cL_law 242 = .ok (.invokevirtual 18, 3) := by decide +kernel
theorem dL_law_245 : decode cL_law 245 = .ok (.aload_n 2, 1) := by decide +kernel
theorem dL_law_246 : decode cL_law 246 = .ok (.aload_n 0, 1) := by decide +kernel
theorem dL_law_247 : decode cL_law 247 = .ok (.iload_n 3, 1) := by decide +kernel
theorem dL_law_248 : decode cL_law 248 = .ok (.iconst 1, 1) := by decide +kernel
theorem dL_law_249 : decode cL_law 249 = .ok (.iadd, 1) := by decide +kernel
theorem dL_law_250 : decode cL_law 250 = .ok (.iaload, 1) := by decide +kernel
theorem dL_law_251 : decode cL_law 251 = .ok (.aload_n 0, 1) := by decide +kernel
theorem dL_law_252 : decode cL_law 252 = .ok (.iload_n 3, 1) := by decide +kernel
theorem dL_law_253 : decode cL_law 253 = .ok (.iconst 2, 1) := by decide +kernel
theorem dL_law_254 : decode cL_law 254 = .ok (.iadd, 1) := by decide +kernel
theorem dL_law_255 : decode cL_law 255 = .ok (.iaload, 1) := by decide +kernel
theorem dL_law_256 : decode cL_law 256 = .ok (.invokevirtual 22, 3) := by decide +kernel
theorem dL_law_259 : decode cL_law 259 = .ok (.if_icmp .eq 1084, 3) := by decide +kernel
theorem dL_law_262 : decode cL_law 262 = .ok (.iconst 0, 1) := by decide +kernel
theorem dL_law_263 : decode cL_law 263 = .ok (.ireturn, 1) := by decide +kernel
theorem dL_law_264 : decode cL_law 264 = .ok (.aload_n 1, 1) := by decide +kernel
theorem dL_law_265 : decode cL_law 265 = .ok (.aload_n 0, 1) := by decide +kernel
theorem dL_law_266 : decode cL_law 266 = .ok (.iload_n 3, 1) := by decide +kernel
theorem dL_law_267 : decode cL_law 267 = .ok (.iconst 1, 1) := by decide +kernel
theorem dL_law_268 : decode cL_law 268 = .ok (.iadd, 1) := by decide +kernel
theorem dL_law_269 : decode cL_law 269 = .ok (.iaload, 1) := by decide +kernel
theorem dL_law_270 : decode cL_law 270 = .ok (.aload_n 0, 1) := by decide +kernel
theorem dL_law_271 : decode cL_law 271 = .ok (.iload_n 3, 1) := by decide +kernel
theorem dL_law_272 : decode cL_law 272 = .ok (.iconst 2, 1) := by decide +kernel
theorem dL_law_273 : decode cL_law 273 = .ok (.iadd, 1) := by decide +kernel
theorem dL_law_274 : decode cL_law 274 = .ok (.iaload, 1) := by decide +kernel
theorem dL_law_275 : decode cL_law 275 = .ok (.aload_n 0, 1) := by decide +kernel
theorem dL_law_276 : decode cL_law 276 = .ok (.iload_n 3, 1) := by decide +kernel
theorem dL_law_277 : decode cL_law 277 = .ok (.iconst 3, 1) := by decide +kernel
theorem dL_law_278 : decode cL_law 278 = .ok (.iadd, 1) := by decide +kernel
theorem dL_law_279 : decode cL_law 279 = .ok (.iaload, 1) := by decide +kernel
theorem dL_law_280 : decode cL_law 280 = .ok (.invokevirtual 23, 3) := by decide +kernel
theorem dL_law_283 : decode cL_law 283 = .ok (.aload_n 2, 1) := by decide +kernel
theorem dL_law_284 : decode cL_law 284 = .ok (.aload_n 0, 1) := by decide +kernel
theorem dL_law_285 : decode cL_law 285 = .ok (.iload_n 3, 1) := by decide +kernel
theorem dL_law_286 : decode cL_law 286 = .ok (.iconst 1, 1) := by decide +kernel
theorem dL_law_287 : decode cL_law 287 = .ok (.iadd, 1) := by decide +kernel
theorem dL_law_288 : decode cL_law 288 = .ok (.iaload, 1) := by decide +kernel
theorem dL_law_289 : decode cL_law 289 = .ok (.aload_n 0, 1) := by decide +kernel
theorem dL_law_290 : decode cL_law 290 = .ok (.iload_n 3, 1) := by decide +kernel
theorem dL_law_291 : decode cL_law 291 = .ok (.iconst 2, 1) := by decide +kernel
theorem dL_law_292 : decode cL_law 292 = .ok (.iadd, 1) := by decide +kernel
theorem dL_law_293 : decode cL_law 293 = .ok (.iaload, 1) := by decide +kernel
theorem dL_law_294 : decode cL_law 294 = .ok (.aload_n 0, 1) := by decide +kernel
theorem dL_law_295 : decode cL_law 295 = .ok (.iload_n 3, 1) := by decide +kernel
theorem dL_law_296 : decode cL_law 296 = .ok (.iconst 3, 1) := by decide +kernel
theorem dL_law_297 : decode cL_law 297 = .ok (.iadd, 1) := by decide +kernel
theorem dL_law_298 : decode cL_law 298 = .ok (.iaload, 1) := by decide +kernel
theorem dL_law_299 : decode cL_law 299 = .ok (.invokevirtual 26, 3) := by decide +kernel
theorem dL_law_302 : decode cL_law 302 = .ok (.if_icmp .eq 1041, 3) := by decide +kernel
theorem dL_law_305 : decode cL_law 305 = .ok (.iconst 0, 1) := by decide +kernel
theorem dL_law_306 : decode cL_law 306 = .ok (.ireturn, 1) := by decide +kernel
theorem dL_law_307 : decode cL_law 307 = .ok (.aload_n 1, 1) := by decide +kernel
theorem dL_law_308 : decode cL_law 308 = .ok (.aload_n 0, 1) := by decide +kernel
theorem dL_law_309 : decode cL_law 309 = .ok (.iload_n 3, 1) := by decide +kernel
theorem dL_law_310 : decode cL_law 310 = .ok (.iconst 1, 1) := by decide +kernel
theorem dL_law_311 : decode cL_law 311 = .ok (.iadd, 1) := by decide +kernel
theorem dL_law_312 : decode cL_law 312 = .ok (.iaload, 1) := by decide +kernel
theorem dL_law_313 : decode cL_law 313 = .ok (.aload_n 0, 1) := by decide +kernel
theorem dL_law_314 : decode cL_law 314 = .ok (.iload_n 3, 1) := by decide +kernel
theorem dL_law_315 : decode cL_law 315 = .ok (.iconst 2, 1) := by decide +kernel
theorem dL_law_316 : decode cL_law 316 = .ok (.iadd, 1) := by decide +kernel
theorem dL_law_317 : decode cL_law 317 = .ok (.iaload, 1) := by decide +kernel
theorem dL_law_318 : decode cL_law 318 = .ok (.invokevirtual 27, 3) := by decide +kernel
theorem dL_law_321 : decode cL_law 321 = .ok (.aload_n 2, 1) := by decide +kernel
theorem dL_law_322 : decode cL_law 322 = .ok (.aload_n 0, 1) := by decide +kernel
theorem dL_law_323 : decode cL_law 323 = .ok (.iload_n 3, 1) := by decide +kernel
theorem dL_law_324 : decode cL_law 324 = .ok (.iconst 1, 1) := by decide +kernel
theorem dL_law_325 : decode cL_law 325 = .ok (.iadd, 1) := by decide +kernel
theorem dL_law_326 : decode cL_law 326 = .ok (.iaload, 1) := by decide +kernel
theorem dL_law_327 : decode cL_law 327 = .ok (.aload_n 0, 1) := by decide +kernel
theorem dL_law_328 : decode cL_law 328 = .ok (.iload_n 3, 1) := by decide +kernel
theorem dL_law_329 : decode cL_law 329 = .ok (.iconst 2, 1) := by decide +kernel
theorem dL_law_330 : decode cL_law 330 = .ok (.iadd, 1) := by decide +kernel
theorem dL_law_331 : decode cL_law 331 = .ok (.iaload, 1) := by decide +kernel
theorem dL_law_332 : decode cL_law 332 = .ok (.invokevirtual 30, 3) := by decide +kernel
theorem dL_law_335 : decode cL_law 335 = .ok (.if_icmp .eq 1008, 3) := by decide +kernel
theorem dL_law_338 : decode cL_law 338 = .ok (.iconst 0, 1) := by decide +kernel
theorem dL_law_339 : decode cL_law 339 = .ok (.ireturn, 1) := by decide +kernel
theorem dL_law_340 : decode cL_law 340 = .ok (.aload_n 1, 1) := by decide +kernel
theorem dL_law_341 : decode cL_law 341 = .ok (.aload_n 0, 1) := by decide +kernel
theorem dL_law_342 : decode cL_law 342 = .ok (.iload_n 3, 1) := by decide +kernel
theorem dL_law_343 : decode cL_law 343 = .ok (.iconst 1, 1) := by decide +kernel
theorem dL_law_344 : decode cL_law 344 = .ok (.iadd, 1) := by decide +kernel
theorem dL_law_345 : decode cL_law 345 = .ok (.iaload, 1) := by decide +kernel
theorem dL_law_346 : decode cL_law 346 = .ok (.aload_n 0, 1) := by decide +kernel
theorem dL_law_347 : decode cL_law 347 = .ok (.iload_n 3, 1) := by decide +kernel
theorem dL_law_348 : decode cL_law 348 = .ok (.iconst 2, 1) := by decide +kernel
theorem dL_law_349 : decode cL_law 349 = .ok (.iadd, 1) := by decide +kernel
theorem dL_law_350 : decode cL_law 350 = .ok (.iaload, 1) := by decide +kernel
theorem dL_law_351 : decode cL_law 351 = .ok (.invokevirtual 31, 3) := by decide +kernel
theorem dL_law_354 : decode cL_law 354 = .ok (.aload_n 2, 1) := by decide +kernel
theorem dL_law_355 : decode cL_law 355 = .ok (.aload_n 0, 1) := by decide +kernel
theorem dL_law_356 : decode cL_law 356 = .ok (.iload_n 3, 1) := by decide +kernel
theorem dL_law_357 : decode cL_law 357 = .ok (.iconst 1, 1) := by decide +kernel
theorem dL_law_358 : decode cL_law 358 = .ok (.iadd, 1) := by decide +kernel
theorem dL_law_359 : decode cL_law 359 = .ok (.iaload, 1) := by decide +kernel
theorem dL_law_360 : decode cL_law 360 = .ok (.aload_n 0, 1) := by decide +kernel
theorem dL_law_361 : decode cL_law 361 = .ok (.iload_n 3, 1) := by decide +kernel
theorem dL_law_362 : decode cL_law 362 = .ok (.iconst 2, 1) := by decide +kernel
theorem dL_law_363 : decode cL_law 363 = .ok (.iadd, 1) := by decide +kernel
theorem dL_law_364 : decode cL_law 364 = .ok (.iaload, 1) := by decide +kernel
theorem dL_law_365 : decode cL_law 365 = .ok (.invokevirtual 34, 3) := by decide +kernel
theorem dL_law_368 : decode cL_law 368 = .ok (.if_icmp .eq 975, 3) := by decide +kernel
theorem dL_law_371 : decode cL_law 371 = .ok (.iconst 0, 1) := by decide +kernel
theorem dL_law_372 : decode cL_law 372 = .ok (.ireturn, 1) := by decide +kernel
theorem dL_law_373 : decode cL_law 373 = .ok (.aload_n 1, 1) := by decide +kernel
theorem dL_law_374 : decode cL_law 374 = .ok (.aload_n 0, 1) := by decide +kernel
theorem dL_law_375 : decode cL_law 375 = .ok (.iload_n 3, 1) := by decide +kernel
theorem dL_law_376 : decode cL_law 376 = .ok (.iconst 1, 1) := by decide +kernel
theorem dL_law_377 : decode cL_law 377 = .ok (.iadd, 1) := by decide +kernel
theorem dL_law_378 : decode cL_law 378 = .ok (.iaload, 1) := by decide +kernel
theorem dL_law_379 : decode cL_law 379 = .ok (.aload_n 0, 1) := by decide +kernel
theorem dL_law_380 : decode cL_law 380 = .ok (.iload_n 3, 1) := by decide +kernel
theorem dL_law_381 : decode cL_law 381 = .ok (.iconst 2, 1) := by decide +kernel
theorem dL_law_382 : decode cL_law 382 = .ok (.iadd, 1) := by decide +kernel
theorem dL_law_383 : decode cL_law 383 = .ok (.iaload, 1) := by decide +kernel
theorem dL_law_384 : decode cL_law 384 = .ok (.invokevirtual 35, 3) := by decide +kernel
theorem dL_law_387 : decode cL_law 387 = .ok (.aload_n 2, 1) := by decide +kernel
theorem dL_law_388 : decode cL_law 388 = .ok (.aload_n 0, 1) := by decide +kernel
theorem dL_law_389 : decode cL_law 389 = .ok (.iload_n 3, 1) := by decide +kernel
theorem dL_law_390 : decode cL_law 390 = .ok (.iconst 1, 1) := by decide +kernel
theorem dL_law_391 : decode cL_law 391 = .ok (.iadd, 1) := by decide +kernel
theorem dL_law_392 : decode cL_law 392 = .ok (.iaload, 1) := by decide +kernel
theorem dL_law_393 : decode cL_law 393 = .ok (.aload_n 0, 1) := by decide +kernel
theorem dL_law_394 : decode cL_law 394 = .ok (.iload_n 3, 1) := by decide +kernel
theorem dL_law_395 : decode cL_law 395 = .ok (.iconst 2, 1) := by decide +kernel
theorem dL_law_396 : decode cL_law 396 = .ok (.iadd, 1) := by decide +kernel
theorem dL_law_397 : decode cL_law 397 = .ok (.iaload, 1) := by decide +kernel
theorem dL_law_398 : decode cL_law 398 = .ok (.invokevirtual 38, 3) := by decide +kernel
theorem dL_law_401 : decode cL_law 401 = .ok (.if_icmp .eq 942, 3) := by decide +kernel
theorem dL_law_404 : decode cL_law 404 = .ok (.iconst 0, 1) := by decide +kernel
theorem dL_law_405 : decode cL_law 405 = .ok (.ireturn, 1) := by decide +kernel
theorem dL_law_406 : decode cL_law 406 = .ok (.aload_n 1, 1) := by decide +kernel
theorem dL_law_407 : decode cL_law 407 = .ok (.aload_n 0, 1) := by decide +kernel
theorem dL_law_408 : decode cL_law 408 = .ok (.iload_n 3, 1) := by decide +kernel
theorem dL_law_409 : decode cL_law 409 = .ok (.iconst 1, 1) := by decide +kernel
theorem dL_law_410 : decode cL_law 410 = .ok (.iadd, 1) := by decide +kernel
theorem dL_law_411 : decode cL_law 411 = .ok (.iaload, 1) := by decide +kernel
theorem dL_law_412 : decode cL_law 412 = .ok (.aload_n 0, 1) := by decide +kernel
theorem dL_law_413 : decode cL_law 413 = .ok (.iload_n 3, 1) := by decide +kernel
theorem dL_law_414 : decode cL_law 414 = .ok (.iconst 2, 1) := by decide +kernel
theorem dL_law_415 : decode cL_law 415 = .ok (.iadd, 1) := by decide +kernel
theorem dL_law_416 : decode cL_law 416 = .ok (.iaload, 1) := by decide +kernel
theorem dL_law_417 : decode cL_law 417 = .ok (.aload_n 0, 1) := by decide +kernel
theorem dL_law_418 : decode cL_law 418 = .ok (.iload_n 3, 1) := by decide +kernel
theorem dL_law_419 : decode cL_law 419 = .ok (.iconst 3, 1) := by decide +kernel
theorem dL_law_420 : decode cL_law 420 = .ok (.iadd, 1) := by decide +kernel
theorem dL_law_421 : decode cL_law 421 = .ok (.iaload, 1) := by decide +kernel
theorem dL_law_422 : decode cL_law 422 = .ok (.invokevirtual 39, 3) := by decide +kernel
theorem dL_law_425 : decode cL_law 425 = .ok (.aload_n 2, 1) := by decide +kernel
theorem dL_law_426 : decode cL_law 426 = .ok (.aload_n 0, 1) := by decide +kernel
theorem dL_law_427 : decode cL_law 427 = .ok (.iload_n 3, 1) := by decide +kernel
theorem dL_law_428 : decode cL_law 428 = .ok (.iconst 1, 1) := by decide +kernel
theorem dL_law_429 : decode cL_law 429 = .ok (.iadd, 1) := by decide +kernel
theorem dL_law_430 : decode cL_law 430 = .ok (.iaload, 1) := by decide +kernel
theorem dL_law_431 : decode cL_law 431 = .ok (.aload_n 0, 1) := by decide +kernel
theorem dL_law_432 : decode cL_law 432 = .ok (.iload_n 3, 1) := by decide +kernel
theorem dL_law_433 : decode cL_law 433 = .ok (.iconst 2, 1) := by decide +kernel
theorem dL_law_434 : decode cL_law 434 = .ok (.iadd, 1) := by decide +kernel
theorem dL_law_435 : decode cL_law 435 = .ok (.iaload, 1) := by decide +kernel
theorem dL_law_436 : decode cL_law 436 = .ok (.aload_n 0, 1) := by decide +kernel
theorem dL_law_437 : decode cL_law 437 = .ok (.iload_n 3, 1) := by decide +kernel
theorem dL_law_438 : decode cL_law 438 = .ok (.iconst 3, 1) := by decide +kernel
theorem dL_law_439 : decode cL_law 439 = .ok (.iadd, 1) := by decide +kernel
theorem dL_law_440 : decode cL_law 440 = .ok (.iaload, 1) := by decide +kernel
theorem dL_law_441 : decode cL_law 441 = .ok (.invokevirtual 42, 3) := by decide +kernel
theorem dL_law_444 : decode cL_law 444 = .ok (.if_icmp .eq 899, 3) := by decide +kernel
theorem dL_law_447 : decode cL_law 447 = .ok (.iconst 0, 1) := by decide +kernel
theorem dL_law_448 : decode cL_law 448 = .ok (.ireturn, 1) := by decide +kernel
theorem dL_law_449 : decode cL_law 449 = .ok (.aload_n 1, 1) := by decide +kernel
theorem dL_law_450 : decode cL_law 450 = .ok (.aload_n 0, 1) := by decide +kernel
theorem dL_law_451 : decode cL_law 451 = .ok (.iload_n 3, 1) := by decide +kernel
theorem dL_law_452 : decode cL_law 452 = .ok (.iconst 1, 1) := by decide +kernel
theorem dL_law_453 : decode cL_law 453 = .ok (.iadd, 1) := by decide +kernel
theorem dL_law_454 : decode cL_law 454 = .ok (.iaload, 1) := by decide +kernel
theorem dL_law_455 : decode cL_law 455 = .ok (.aload_n 0, 1) := by decide +kernel
theorem dL_law_456 : decode cL_law 456 = .ok (.iload_n 3, 1) := by decide +kernel
theorem dL_law_457 : decode cL_law 457 = .ok (.iconst 2, 1) := by decide +kernel
theorem dL_law_458 : decode cL_law 458 = .ok (.iadd, 1) := by decide +kernel
theorem dL_law_459 : decode cL_law 459 = .ok (.iaload, 1) := by decide +kernel
theorem dL_law_460 : decode cL_law 460 = .ok (.invokevirtual 43, 3) := by decide +kernel
theorem dL_law_463 : decode cL_law 463 = .ok (.aload_n 2, 1) := by decide +kernel
theorem dL_law_464 : decode cL_law 464 = .ok (.aload_n 0, 1) := by decide +kernel
theorem dL_law_465 : decode cL_law 465 = .ok (.iload_n 3, 1) := by decide +kernel
theorem dL_law_466 : decode cL_law 466 = .ok (.iconst 1, 1) := by decide +kernel
theorem dL_law_467 : decode cL_law 467 = .ok (.iadd, 1) := by decide +kernel
theorem dL_law_468 : decode cL_law 468 = .ok (.iaload, 1) := by decide +kernel
theorem dL_law_469 : decode cL_law 469 = .ok (.aload_n 0, 1) := by decide +kernel
theorem dL_law_470 : decode cL_law 470 = .ok (.iload_n 3, 1) := by decide +kernel
theorem dL_law_471 : decode cL_law 471 = .ok (.iconst 2, 1) := by decide +kernel
theorem dL_law_472 : decode cL_law 472 = .ok (.iadd, 1) := by decide +kernel
theorem dL_law_473 : decode cL_law 473 = .ok (.iaload, 1) := by decide +kernel
theorem dL_law_474 : decode cL_law 474 = .ok (.invokevirtual 46, 3) := by decide +kernel
theorem dL_law_477 : decode cL_law 477 = .ok (.if_icmp .eq 866, 3) := by decide +kernel
theorem dL_law_480 : decode cL_law 480 = .ok (.iconst 0, 1) := by decide +kernel
theorem dL_law_481 : decode cL_law 481 = .ok (.ireturn, 1) := by decide +kernel
theorem dL_law_482 : decode cL_law 482 = .ok (.aload_n 1, 1) := by decide +kernel
theorem dL_law_483 : decode cL_law 483 = .ok (.aload_n 0, 1) := by decide +kernel
theorem dL_law_484 : decode cL_law 484 = .ok (.iload_n 3, 1) := by decide +kernel
theorem dL_law_485 : decode cL_law 485 = .ok (.iconst 1, 1) := by decide +kernel
theorem dL_law_486 : decode cL_law 486 = .ok (.iadd, 1) := by decide +kernel
theorem dL_law_487 : decode cL_law 487 = .ok (.iaload, 1) := by decide +kernel
theorem dL_law_488 : decode cL_law 488 = .ok (.i2l, 1) := by decide +kernel
theorem dL_law_489 : decode cL_law 489 = .ok (.bipush 32, 2) := by decide +kernel
theorem dL_law_491 : decode cL_law 491 = .ok (.lshl, 1) := by decide +kernel
theorem dL_law_492 : decode cL_law 492 = .ok (.aload_n 0, 1) := by decide +kernel
theorem dL_law_493 : decode cL_law 493 = .ok (.iload_n 3, 1) := by decide +kernel
theorem dL_law_494 : decode cL_law 494 = .ok (.iconst 2, 1) := by decide +kernel
theorem dL_law_495 : decode cL_law 495 = .ok (.iadd, 1) := by decide +kernel
theorem dL_law_496 : decode cL_law 496 = .ok (.iaload, 1) := by decide +kernel
theorem dL_law_497 : decode cL_law 497 = .ok (.i2l, 1) := by decide +kernel
theorem dL_law_498 : decode cL_law 498 = .ok (.ldc2_w 47, 3) := by decide +kernel
theorem dL_law_501 : decode cL_law 501 = .ok (.land, 1) := by decide +kernel
theorem dL_law_502 : decode cL_law 502 = .ok (.lor, 1) := by decide +kernel
theorem dL_law_503 : decode cL_law 503 = .ok (.aload_n 0, 1) := by decide +kernel
theorem dL_law_504 : decode cL_law 504 = .ok (.iload_n 3, 1) := by decide +kernel
theorem dL_law_505 : decode cL_law 505 = .ok (.iconst 3, 1) := by decide +kernel
theorem dL_law_506 : decode cL_law 506 = .ok (.iadd, 1) := by decide +kernel
theorem dL_law_507 : decode cL_law 507 = .ok (.iaload, 1) := by decide +kernel
theorem dL_law_508 : decode cL_law 508 = .ok (.invokevirtual 49, 3) := by decide +kernel
theorem dL_law_511 : decode cL_law 511 = .ok (.aload_n 2, 1) := by decide +kernel
theorem dL_law_512 : decode cL_law 512 = .ok (.aload_n 0, 1) := by decide +kernel
theorem dL_law_513 : decode cL_law 513 = .ok (.iload_n 3, 1) := by decide +kernel
theorem dL_law_514 : decode cL_law 514 = .ok (.iconst 1, 1) := by decide +kernel
theorem dL_law_515 : decode cL_law 515 = .ok (.iadd, 1) := by decide +kernel
theorem dL_law_516 : decode cL_law 516 = .ok (.iaload, 1) := by decide +kernel
theorem dL_law_517 : decode cL_law 517 = .ok (.i2l, 1) := by decide +kernel
theorem dL_law_518 : decode cL_law 518 = .ok (.bipush 32, 2) := by decide +kernel
theorem dL_law_520 : decode cL_law 520 = .ok (.lshl, 1) := by decide +kernel
theorem dL_law_521 : decode cL_law 521 = .ok (.aload_n 0, 1) := by decide +kernel
theorem dL_law_522 : decode cL_law 522 = .ok (.iload_n 3, 1) := by decide +kernel
theorem dL_law_523 : decode cL_law 523 = .ok (.iconst 2, 1) := by decide +kernel
theorem dL_law_524 : decode cL_law 524 = .ok (.iadd, 1) := by decide +kernel
theorem dL_law_525 : decode cL_law 525 = .ok (.iaload, 1) := by decide +kernel
theorem dL_law_526 : decode cL_law 526 = .ok (.i2l, 1) := by decide +kernel
theorem dL_law_527 : decode cL_law 527 = .ok (.ldc2_w 47, 3) := by decide +kernel
theorem dL_law_530 : decode cL_law 530 = .ok (.land, 1) := by decide +kernel
theorem dL_law_531 : decode cL_law 531 = .ok (.lor, 1) := by decide +kernel
theorem dL_law_532 : decode cL_law 532 = .ok (.aload_n 0, 1) := by decide +kernel
theorem dL_law_533 : decode cL_law 533 = .ok (.iload_n 3, 1) := by decide +kernel
theorem dL_law_534 : decode cL_law 534 = .ok (.iconst 3, 1) := by decide +kernel
theorem dL_law_535 : decode cL_law 535 = .ok (.iadd, 1) := by decide +kernel
theorem dL_law_536 : decode cL_law 536 = .ok (.iaload, 1) := by decide +kernel
theorem dL_law_537 : decode cL_law 537 = .ok (.invokevirtual 53, 3) := by decide +kernel
theorem dL_law_540 : decode cL_law 540 = .ok (.if_icmp .eq 803, 3) := by decide +kernel
theorem dL_law_543 : decode cL_law 543 = .ok (.iconst 0, 1) := by decide +kernel
theorem dL_law_544 : decode cL_law 544 = .ok (.ireturn, 1) := by decide +kernel
theorem dL_law_545 : decode cL_law 545 = .ok (.aload_n 1, 1) := by decide +kernel
theorem dL_law_546 : decode cL_law 546 = .ok (.aload_n 0, 1) := by decide +kernel
theorem dL_law_547 : decode cL_law 547 = .ok (.iload_n 3, 1) := by decide +kernel
theorem dL_law_548 : decode cL_law 548 = .ok (.iconst 1, 1) := by decide +kernel
theorem dL_law_549 : decode cL_law 549 = .ok (.iadd, 1) := by decide +kernel
theorem dL_law_550 : decode cL_law 550 = .ok (.iaload, 1) := by decide +kernel
theorem dL_law_551 : decode cL_law 551 = .ok (.invokevirtual 54, 3) := by decide +kernel
theorem dL_law_554 : decode cL_law 554 = .ok (.aload_n 2, 1) := by decide +kernel
theorem dL_law_555 : decode cL_law 555 = .ok (.aload_n 0, 1) := by decide +kernel
theorem dL_law_556 : decode cL_law 556 = .ok (.iload_n 3, 1) := by decide +kernel
theorem dL_law_557 : decode cL_law 557 = .ok (.iconst 1, 1) := by decide +kernel
theorem dL_law_558 : decode cL_law 558 = .ok (.iadd, 1) := by decide +kernel
theorem dL_law_559 : decode cL_law 559 = .ok (.iaload, 1) := by decide +kernel
theorem dL_law_560 : decode cL_law 560 = .ok (.invokevirtual 58, 3) := by decide +kernel
theorem dL_law_563 : decode cL_law 563 = .ok (.if_icmp .eq 780, 3) := by decide +kernel
theorem dL_law_566 : decode cL_law 566 = .ok (.iconst 0, 1) := by decide +kernel
theorem dL_law_567 : decode cL_law 567 = .ok (.ireturn, 1) := by decide +kernel
theorem dL_law_568 : decode cL_law 568 = .ok (.aload_n 1, 1) := by decide +kernel
theorem dL_law_569 : decode cL_law 569 = .ok (.aload_n 0, 1) := by decide +kernel
theorem dL_law_570 : decode cL_law 570 = .ok (.iload_n 3, 1) := by decide +kernel
theorem dL_law_571 : decode cL_law 571 = .ok (.iconst 1, 1) := by decide +kernel
theorem dL_law_572 : decode cL_law 572 = .ok (.iadd, 1) := by decide +kernel
theorem dL_law_573 : decode cL_law 573 = .ok (.iaload, 1) := by decide +kernel
theorem dL_law_574 : decode cL_law 574 = .ok (.aload_n 0, 1) := by decide +kernel
theorem dL_law_575 : decode cL_law 575 = .ok (.iload_n 3, 1) := by decide +kernel
theorem dL_law_576 : decode cL_law 576 = .ok (.iconst 2, 1) := by decide +kernel
theorem dL_law_577 : decode cL_law 577 = .ok (.iadd, 1) := by decide +kernel
theorem dL_law_578 : decode cL_law 578 = .ok (.iaload, 1) := by decide +kernel
theorem dL_law_579 : decode cL_law 579 = .ok (.aload_n 0, 1) := by decide +kernel
theorem dL_law_580 : decode cL_law 580 = .ok (.iload_n 3, 1) := by decide +kernel
theorem dL_law_581 : decode cL_law 581 = .ok (.iconst 3, 1) := by decide +kernel
theorem dL_law_582 : decode cL_law 582 = .ok (.iadd, 1) := by decide +kernel
theorem dL_law_583 : decode cL_law 583 = .ok (.iaload, 1) := by decide +kernel
theorem dL_law_584 : decode cL_law 584 = .ok (.aload_n 0, 1) := by decide +kernel
theorem dL_law_585 : decode cL_law 585 = .ok (.iload_n 3, 1) := by decide +kernel
theorem dL_law_586 : decode cL_law 586 = .ok (.iconst 4, 1) := by decide +kernel
theorem dL_law_587 : decode cL_law 587 = .ok (.iadd, 1) := by decide +kernel
theorem dL_law_588 : decode cL_law 588 = .ok (.iaload, 1) := by decide +kernel
theorem dL_law_589 : decode cL_law 589 = .ok (.aload_n 0, 1) := by decide +kernel
theorem dL_law_590 : decode cL_law 590 = .ok (.iload_n 3, 1) := by decide +kernel
theorem dL_law_591 : decode cL_law 591 = .ok (.iconst 5, 1) := by decide +kernel
theorem dL_law_592 : decode cL_law 592 = .ok (.iadd, 1) := by decide +kernel
theorem dL_law_593 : decode cL_law 593 = .ok (.iaload, 1) := by decide +kernel
theorem dL_law_594 : decode cL_law 594 = .ok (.invokevirtual 59, 3) := by decide +kernel
theorem dL_law_597 : decode cL_law 597 = .ok (.aload_n 2, 1) := by decide +kernel
theorem dL_law_598 : decode cL_law 598 = .ok (.aload_n 0, 1) := by decide +kernel
theorem dL_law_599 : decode cL_law 599 = .ok (.iload_n 3, 1) := by decide +kernel
theorem dL_law_600 : decode cL_law 600 = .ok (.iconst 1, 1) := by decide +kernel
theorem dL_law_601 : decode cL_law 601 = .ok (.iadd, 1) := by decide +kernel
theorem dL_law_602 : decode cL_law 602 = .ok (.iaload, 1) := by decide +kernel
theorem dL_law_603 : decode cL_law 603 = .ok (.aload_n 0, 1) := by decide +kernel
theorem dL_law_604 : decode cL_law 604 = .ok (.iload_n 3, 1) := by decide +kernel
theorem dL_law_605 : decode cL_law 605 = .ok (.iconst 2, 1) := by decide +kernel
theorem dL_law_606 : decode cL_law 606 = .ok (.iadd, 1) := by decide +kernel
theorem dL_law_607 : decode cL_law 607 = .ok (.iaload, 1) := by decide +kernel
theorem dL_law_608 : decode cL_law 608 = .ok (.aload_n 0, 1) := by decide +kernel
theorem dL_law_609 : decode cL_law 609 = .ok (.iload_n 3, 1) := by decide +kernel
theorem dL_law_610 : decode cL_law 610 = .ok (.iconst 3, 1) := by decide +kernel
theorem dL_law_611 : decode cL_law 611 = .ok (.iadd, 1) := by decide +kernel
theorem dL_law_612 : decode cL_law 612 = .ok (.iaload, 1) := by decide +kernel
theorem dL_law_613 : decode cL_law 613 = .ok (.aload_n 0, 1) := by decide +kernel
theorem dL_law_614 : decode cL_law 614 = .ok (.iload_n 3, 1) := by decide +kernel
theorem dL_law_615 : decode cL_law 615 = .ok (.iconst 4, 1) := by decide +kernel
theorem dL_law_616 : decode cL_law 616 = .ok (.iadd, 1) := by decide +kernel
theorem dL_law_617 : decode cL_law 617 = .ok (.iaload, 1) := by decide +kernel
theorem dL_law_618 : decode cL_law 618 = .ok (.aload_n 0, 1) := by decide +kernel
theorem dL_law_619 : decode cL_law 619 = .ok (.iload_n 3, 1) := by decide +kernel
theorem dL_law_620 : decode cL_law 620 = .ok (.iconst 5, 1) := by decide +kernel
theorem dL_law_621 : decode cL_law 621 = .ok (.iadd, 1) := by decide +kernel
theorem dL_law_622 : decode cL_law 622 = .ok (.iaload, 1) := by decide +kernel
theorem dL_law_623 : decode cL_law 623 = .ok (.invokevirtual 63, 3) := by decide +kernel
theorem dL_law_626 : decode cL_law 626 = .ok (.if_icmp .eq 717, 3) := by decide +kernel
theorem dL_law_629 : decode cL_law 629 = .ok (.iconst 0, 1) := by decide +kernel
theorem dL_law_630 : decode cL_law 630 = .ok (.ireturn, 1) := by decide +kernel
theorem dL_law_631 : decode cL_law 631 = .ok (.aload_n 1, 1) := by decide +kernel
theorem dL_law_632 : decode cL_law 632 = .ok (.invokevirtual 64, 3) := by decide +kernel
theorem dL_law_635 : decode cL_law 635 = .ok (.aload_n 2, 1) := by decide +kernel
theorem dL_law_636 : decode cL_law 636 = .ok (.invokevirtual 68, 3) := by decide +kernel
theorem dL_law_639 : decode cL_law 639 = .ok (.if_icmp .eq 704, 3) := by decide +kernel
theorem dL_law_642 : decode cL_law 642 = .ok (.iconst 0, 1) := by decide +kernel
theorem dL_law_643 : decode cL_law 643 = .ok (.ireturn, 1) := by decide +kernel
theorem dL_law_644 : decode cL_law 644 = .ok (.aload_n 1, 1) := by decide +kernel
theorem dL_law_645 : decode cL_law 645 = .ok (.aload_n 0, 1) := by decide +kernel
theorem dL_law_646 : decode cL_law 646 = .ok (.iload_n 3, 1) := by decide +kernel
theorem dL_law_647 : decode cL_law 647 = .ok (.iconst 1, 1) := by decide +kernel
theorem dL_law_648 : decode cL_law 648 = .ok (.iadd, 1) := by decide +kernel
theorem dL_law_649 : decode cL_law 649 = .ok (.iaload, 1) := by decide +kernel
theorem dL_law_650 : decode cL_law 650 = .ok (.invokevirtual 69, 3) := by decide +kernel
theorem dL_law_653 : decode cL_law 653 = .ok (.aload_n 2, 1) := by decide +kernel
theorem dL_law_654 : decode cL_law 654 = .ok (.aload_n 0, 1) := by decide +kernel
theorem dL_law_655 : decode cL_law 655 = .ok (.iload_n 3, 1) := by decide +kernel
theorem dL_law_656 : decode cL_law 656 = .ok (.iconst 1, 1) := by decide +kernel
theorem dL_law_657 : decode cL_law 657 = .ok (.iadd, 1) := by decide +kernel
theorem dL_law_658 : decode cL_law 658 = .ok (.iaload, 1) := by decide +kernel
theorem dL_law_659 : decode cL_law 659 = .ok (.invokevirtual 72, 3) := by decide +kernel
theorem dL_law_662 : decode cL_law 662 = .ok (.if_icmp .eq 681, 3) := by decide +kernel
theorem dL_law_665 : decode cL_law 665 = .ok (.iconst 0, 1) := by decide +kernel
theorem dL_law_666 : decode cL_law 666 = .ok (.ireturn, 1) := by decide +kernel
theorem dL_law_667 : decode cL_law 667 = .ok (.aload_n 1, 1) := by decide +kernel
theorem dL_law_668 : decode cL_law 668 = .ok (.aload_n 0, 1) := by decide +kernel
theorem dL_law_669 : decode cL_law 669 = .ok (.iload_n 3, 1) := by decide +kernel
theorem dL_law_670 : decode cL_law 670 = .ok (.iconst 1, 1) := by decide +kernel
theorem dL_law_671 : decode cL_law 671 = .ok (.iadd, 1) := by decide +kernel
theorem dL_law_672 : decode cL_law 672 = .ok (.iaload, 1) := by decide +kernel
theorem dL_law_673 : decode cL_law 673 = .ok (.invokevirtual 73, 3) := by decide +kernel
theorem dL_law_676 : decode cL_law 676 = .ok (.aload_n 2, 1) := by decide +kernel
theorem dL_law_677 : decode cL_law 677 = .ok (.aload_n 0, 1) := by decide +kernel
theorem dL_law_678 : decode cL_law 678 = .ok (.iload_n 3, 1) := by decide +kernel
theorem dL_law_679 : decode cL_law 679 = .ok (.iconst 1, 1) := by decide +kernel
theorem dL_law_680 : decode cL_law 680 = .ok (.iadd, 1) := by decide +kernel
theorem dL_law_681 : decode cL_law 681 = .ok (.iaload, 1) := by decide +kernel
theorem dL_law_682 : decode cL_law 682 = .ok (.invokevirtual 76, 3) := by decide +kernel
theorem dL_law_685 : decode cL_law 685 = .ok (.if_icmp .eq 658, 3) := by decide +kernel
theorem dL_law_688 : decode cL_law 688 = .ok (.iconst 0, 1) := by decide +kernel
theorem dL_law_689 : decode cL_law 689 = .ok (.ireturn, 1) := by decide +kernel
theorem dL_law_690 : decode cL_law 690 = .ok (.aload_n 1, 1) := by decide +kernel
theorem dL_law_691 : decode cL_law 691 = .ok (.aload_n 0, 1) := by decide +kernel
theorem dL_law_692 : decode cL_law 692 = .ok (.iload_n 3, 1) := by decide +kernel
theorem dL_law_693 : decode cL_law 693 = .ok (.iconst 1, 1) := by decide +kernel
theorem dL_law_694 : decode cL_law 694 = .ok (.iadd, 1) := by decide +kernel
theorem dL_law_695 : decode cL_law 695 = .ok (.iaload, 1) := by decide +kernel
theorem dL_law_696 : decode cL_law 696 = .ok (.aload_n 0, 1) := by decide +kernel
theorem dL_law_697 : decode cL_law 697 = .ok (.iload_n 3, 1) := by decide +kernel
theorem dL_law_698 : decode cL_law 698 = .ok (.iconst 2, 1) := by decide +kernel
theorem dL_law_699 : decode cL_law 699 = .ok (.iadd, 1) := by decide +kernel
theorem dL_law_700 : decode cL_law 700 = .ok (.iaload, 1) := by decide +kernel
theorem dL_law_701 : decode cL_law 701 = .ok (.aload_n 0, 1) := by decide +kernel
theorem dL_law_702 : decode cL_law 702 = .ok (.iload_n 3, 1) := by decide +kernel
theorem dL_law_703 : decode cL_law 703 = .ok (.iconst 3, 1) := by decide +kernel
theorem dL_law_704 : decode cL_law 704 = .ok (.iadd, 1) := by decide +kernel
theorem dL_law_705 : decode cL_law 705 = .ok (.iaload, 1) := by decide +kernel
theorem dL_law_706 : decode cL_law 706 = .ok (.invokevirtual 77, 3) := by decide +kernel
theorem dL_law_709 : decode cL_law 709 = .ok (.aload_n 2, 1) := by decide +kernel
theorem dL_law_710 : decode cL_law 710 = .ok (.aload_n 0, 1) := by decide +kernel
theorem dL_law_711 : decode cL_law 711 = .ok (.iload_n 3, 1) := by decide +kernel
theorem dL_law_712 : decode cL_law 712 = .ok (.iconst 1, 1) := by decide +kernel
theorem dL_law_713 : decode cL_law 713 = .ok (.iadd, 1) := by decide +kernel
theorem dL_law_714 : decode cL_law 714 = .ok (.iaload, 1) := by decide +kernel
theorem dL_law_715 : decode cL_law 715 = .ok (.aload_n 0, 1) := by decide +kernel
theorem dL_law_716 : decode cL_law 716 = .ok (.iload_n 3, 1) := by decide +kernel
theorem dL_law_717 : decode cL_law 717 = .ok (.iconst 2, 1) := by decide +kernel
theorem dL_law_718 : decode cL_law 718 = .ok (.iadd, 1) := by decide +kernel
theorem dL_law_719 : decode cL_law 719 = .ok (.iaload, 1) := by decide +kernel
theorem dL_law_720 : decode cL_law 720 = .ok (.aload_n 0, 1) := by decide +kernel
theorem dL_law_721 : decode cL_law 721 = .ok (.iload_n 3, 1) := by decide +kernel
theorem dL_law_722 : decode cL_law 722 = .ok (.iconst 3, 1) := by decide +kernel
theorem dL_law_723 : decode cL_law 723 = .ok (.iadd, 1) := by decide +kernel
theorem dL_law_724 : decode cL_law 724 = .ok (.iaload, 1) := by decide +kernel
theorem dL_law_725 : decode cL_law 725 = .ok (.invokevirtual 80, 3) := by decide +kernel
theorem dL_law_728 : decode cL_law 728 = .ok (.if_icmp .eq 615, 3) := by decide +kernel
theorem dL_law_731 : decode cL_law 731 = .ok (.iconst 0, 1) := by decide +kernel
theorem dL_law_732 : decode cL_law 732 = .ok (.ireturn, 1) := by decide +kernel
theorem dL_law_733 : decode cL_law 733 = .ok (.aload_n 1, 1) := by decide +kernel
theorem dL_law_734 : decode cL_law 734 = .ok (.aload_n 0, 1) := by decide +kernel
theorem dL_law_735 : decode cL_law 735 = .ok (.iload_n 3, 1) := by decide +kernel
theorem dL_law_736 : decode cL_law 736 = .ok (.iconst 1, 1) := by decide +kernel
theorem dL_law_737 : decode cL_law 737 = .ok (.iadd, 1) := by decide +kernel
theorem dL_law_738 : decode cL_law 738 = .ok (.iaload, 1) := by decide +kernel
theorem dL_law_739 : decode cL_law 739 = .ok (.invokevirtual 81, 3) := by decide +kernel
theorem dL_law_742 : decode cL_law 742 = .ok (.aload_n 2, 1) := by decide +kernel
theorem dL_law_743 : decode cL_law 743 = .ok (.aload_n 0, 1) := by decide +kernel
theorem dL_law_744 : decode cL_law 744 = .ok (.iload_n 3, 1) := by decide +kernel
theorem dL_law_745 : decode cL_law 745 = .ok (.iconst 1, 1) := by decide +kernel
theorem dL_law_746 : decode cL_law 746 = .ok (.iadd, 1) := by decide +kernel
theorem dL_law_747 : decode cL_law 747 = .ok (.iaload, 1) := by decide +kernel
theorem dL_law_748 : decode cL_law 748 = .ok (.invokevirtual 84, 3) := by decide +kernel
theorem dL_law_751 : decode cL_law 751 = .ok (.if_icmp .eq 592, 3) := by decide +kernel
theorem dL_law_754 : decode cL_law 754 = .ok (.iconst 0, 1) := by decide +kernel
theorem dL_law_755 : decode cL_law 755 = .ok (.ireturn, 1) := by decide +kernel
theorem dL_law_756 : decode cL_law 756 = .ok (.aload_n 1, 1) := by decide +kernel
theorem dL_law_757 : decode cL_law 757 = .ok (.aload_n 0, 1) := by decide +kernel
theorem dL_law_758 : decode cL_law 758 = .ok (.iload_n 3, 1) := by decide +kernel
theorem dL_law_759 : decode cL_law 759 = .ok (.iconst 1, 1) := by decide +kernel
theorem dL_law_760 : decode cL_law 760 = .ok (.iadd, 1) := by decide +kernel
theorem dL_law_761 : decode cL_law 761 = .ok (.iaload, 1) := by decide +kernel
theorem dL_law_762 : decode cL_law 762 = .ok (.invokevirtual 85, 3) := by decide +kernel
theorem dL_law_765 : decode cL_law 765 = .ok (.aload_n 2, 1) := by decide +kernel
theorem dL_law_766 : decode cL_law 766 = .ok (.aload_n 0, 1) := by decide +kernel
theorem dL_law_767 : decode cL_law 767 = .ok (.iload_n 3, 1) := by decide +kernel
theorem dL_law_768 : decode cL_law 768 = .ok (.iconst 1, 1) := by decide +kernel
theorem dL_law_769 : decode cL_law 769 = .ok (.iadd, 1) := by decide +kernel
theorem dL_law_770 : decode cL_law 770 = .ok (.iaload, 1) := by decide +kernel
theorem dL_law_771 : decode cL_law 771 = .ok (.invokevirtual 88, 3) := by decide +kernel
theorem dL_law_774 : decode cL_law 774 = .ok (.if_icmp .eq 569, 3) := by decide +kernel
theorem dL_law_777 : decode cL_law 777 = .ok (.iconst 0, 1) := by decide +kernel
theorem dL_law_778 : decode cL_law 778 = .ok (.ireturn, 1) := by decide +kernel
theorem dL_law_779 : decode cL_law 779 = .ok (.aload_n 1, 1) := by decide +kernel
theorem dL_law_780 : decode cL_law 780 = .ok (.aload_n 0, 1) := by decide +kernel
theorem dL_law_781 : decode cL_law 781 = .ok (.iload_n 3, 1) := by decide +kernel
theorem dL_law_782 : decode cL_law 782 = .ok (.iconst 1, 1) := by decide +kernel
theorem dL_law_783 : decode cL_law 783 = .ok (.iadd, 1) := by decide +kernel
theorem dL_law_784 : decode cL_law 784 = .ok (.iaload, 1) := by decide +kernel
theorem dL_law_785 : decode cL_law 785 = .ok (.invokevirtual 89, 3) := by decide +kernel
theorem dL_law_788 : decode cL_law 788 = .ok (.aload_n 2, 1) := by decide +kernel
theorem dL_law_789 : decode cL_law 789 = .ok (.aload_n 0, 1) := by decide +kernel
theorem dL_law_790 : decode cL_law 790 = .ok (.iload_n 3, 1) := by decide +kernel
theorem dL_law_791 : decode cL_law 791 = .ok (.iconst 1, 1) := by decide +kernel
theorem dL_law_792 : decode cL_law 792 = .ok (.iadd, 1) := by decide +kernel
theorem dL_law_793 : decode cL_law 793 = .ok (.iaload, 1) := by decide +kernel
theorem dL_law_794 : decode cL_law 794 = .ok (.invokevirtual 92, 3) := by decide +kernel
theorem dL_law_797 : decode cL_law 797 = .ok (.if_icmp .eq 546, 3) := by decide +kernel
theorem dL_law_800 : decode cL_law 800 = .ok (.iconst 0, 1) := by decide +kernel
theorem dL_law_801 : decode cL_law 801 = .ok (.ireturn, 1) := by decide +kernel
theorem dL_law_802 : decode cL_law 802 = .ok (.aload_n 1, 1) := by decide +kernel
theorem dL_law_803 : decode cL_law 803 = .ok (.aload_n 0, 1) := by decide +kernel
theorem dL_law_804 : decode cL_law 804 = .ok (.iload_n 3, 1) := by decide +kernel
theorem dL_law_805 : decode cL_law 805 = .ok (.iconst 1, 1) := by decide +kernel
theorem dL_law_806 : decode cL_law 806 = .ok (.iadd, 1) := by decide +kernel
theorem dL_law_807 : decode cL_law 807 = .ok (.iaload, 1) := by decide +kernel
theorem dL_law_808 : decode cL_law 808 = .ok (.aload_n 0, 1) := by decide +kernel
theorem dL_law_809 : decode cL_law 809 = .ok (.iload_n 3, 1) := by decide +kernel
theorem dL_law_810 : decode cL_law 810 = .ok (.iconst 2, 1) := by decide +kernel
theorem dL_law_811 : decode cL_law 811 = .ok (.iadd, 1) := by decide +kernel
theorem dL_law_812 : decode cL_law 812 = .ok (.iaload, 1) := by decide +kernel
theorem dL_law_813 : decode cL_law 813 = .ok (.invokevirtual 93, 3) := by decide +kernel
theorem dL_law_816 : decode cL_law 816 = .ok (.aload_n 2, 1) := by decide +kernel
theorem dL_law_817 : decode cL_law 817 = .ok (.aload_n 0, 1) := by decide +kernel
theorem dL_law_818 : decode cL_law 818 = .ok (.iload_n 3, 1) := by decide +kernel
theorem dL_law_819 : decode cL_law 819 = .ok (.iconst 1, 1) := by decide +kernel
theorem dL_law_820 : decode cL_law 820 = .ok (.iadd, 1) := by decide +kernel
theorem dL_law_821 : decode cL_law 821 = .ok (.iaload, 1) := by decide +kernel
theorem dL_law_822 : decode cL_law 822 = .ok (.aload_n 0, 1) := by decide +kernel
theorem dL_law_823 : decode cL_law 823 = .ok (.iload_n 3, 1) := by decide +kernel
theorem dL_law_824 : decode cL_law 824 = .ok (.iconst 2, 1) := by decide +kernel
theorem dL_law_825 : decode cL_law 825 = .ok (.iadd, 1) := by decide +kernel
theorem dL_law_826 : decode cL_law 826 = .ok (.iaload, 1) := by decide +kernel
theorem dL_law_827 : decode cL_law 827 = .ok (.invokevirtual 96, 3) := by decide +kernel
theorem dL_law_830 : decode cL_law 830 = .ok (.if_icmp .eq 513, 3) := by decide +kernel
theorem dL_law_833 : decode cL_law 833 = .ok (.iconst 0, 1) := by decide +kernel
theorem dL_law_834 : decode cL_law 834 = .ok (.ireturn, 1) := by decide +kernel
theorem dL_law_835 : decode cL_law 835 = .ok (.aload_n 1, 1) := by decide +kernel
theorem dL_law_836 : decode cL_law 836 = .ok (.aload_n 0, 1) := by decide +kernel
theorem dL_law_837 : decode cL_law 837 = .ok (.iload_n 3, 1) := by decide +kernel
theorem dL_law_838 : decode cL_law 838 = .ok (.iconst 1, 1) := by decide +kernel
theorem dL_law_839 : decode cL_law 839 = .ok (.iadd, 1) := by decide +kernel
theorem dL_law_840 : decode cL_law 840 = .ok (.iaload, 1) := by decide +kernel
theorem dL_law_841 : decode cL_law 841 = .ok (.aload_n 0, 1) := by decide +kernel
theorem dL_law_842 : decode cL_law 842 = .ok (.iload_n 3, 1) := by decide +kernel
theorem dL_law_843 : decode cL_law 843 = .ok (.iconst 2, 1) := by decide +kernel
theorem dL_law_844 : decode cL_law 844 = .ok (.iadd, 1) := by decide +kernel
theorem dL_law_845 : decode cL_law 845 = .ok (.iaload, 1) := by decide +kernel
theorem dL_law_846 : decode cL_law 846 = .ok (.aload_n 0, 1) := by decide +kernel
theorem dL_law_847 : decode cL_law 847 = .ok (.iload_n 3, 1) := by decide +kernel
theorem dL_law_848 : decode cL_law 848 = .ok (.iconst 3, 1) := by decide +kernel
theorem dL_law_849 : decode cL_law 849 = .ok (.iadd, 1) := by decide +kernel
theorem dL_law_850 : decode cL_law 850 = .ok (.iaload, 1) := by decide +kernel
theorem dL_law_851 : decode cL_law 851 = .ok (.invokevirtual 97, 3) := by decide +kernel
theorem dL_law_854 : decode cL_law 854 = .ok (.aload_n 2, 1) := by decide +kernel
theorem dL_law_855 : decode cL_law 855 = .ok (.aload_n 0, 1) := by decide +kernel
theorem dL_law_856 : decode cL_law 856 = .ok (.iload_n 3, 1) := by decide +kernel
theorem dL_law_857 : decode cL_law 857 = .ok (.iconst 1, 1) := by decide +kernel
theorem dL_law_858 : decode cL_law 858 = .ok (.iadd, 1) := by decide +kernel
theorem dL_law_859 : decode cL_law 859 = .ok (.iaload, 1) := by decide +kernel
theorem dL_law_860 : decode cL_law 860 = .ok (.aload_n 0, 1) := by decide +kernel
theorem dL_law_861 : decode cL_law 861 = .ok (.iload_n 3, 1) := by decide +kernel
theorem dL_law_862 : decode cL_law 862 = .ok (.iconst 2, 1) := by decide +kernel
theorem dL_law_863 : decode cL_law 863 = .ok (.iadd, 1) := by decide +kernel
theorem dL_law_864 : decode cL_law 864 = .ok (.iaload, 1) := by decide +kernel
theorem dL_law_865 : decode cL_law 865 = .ok (.aload_n 0, 1) := by decide +kernel
theorem dL_law_866 : decode cL_law 866 = .ok (.iload_n 3, 1) := by decide +kernel
theorem dL_law_867 : decode cL_law 867 = .ok (.iconst 3, 1) := by decide +kernel
theorem dL_law_868 : decode cL_law 868 = .ok (.iadd, 1) := by decide +kernel
theorem dL_law_869 : decode cL_law 869 = .ok (.iaload, 1) := by decide +kernel
theorem dL_law_870 : decode cL_law 870 = .ok (.invokevirtual 100, 3) := by decide +kernel
theorem dL_law_873 : decode cL_law 873 = .ok (.if_icmp .eq 470, 3) := by decide +kernel
theorem dL_law_876 : decode cL_law 876 = .ok (.iconst 0, 1) := by decide +kernel
theorem dL_law_877 : decode cL_law 877 = .ok (.ireturn, 1) := by decide +kernel
theorem dL_law_878 : decode cL_law 878 = .ok (.aload_n 1, 1) := by decide +kernel
theorem dL_law_879 : decode cL_law 879 = .ok (.aload_n 0, 1) := by decide +kernel
theorem dL_law_880 : decode cL_law 880 = .ok (.iload_n 3, 1) := by decide +kernel
theorem dL_law_881 : decode cL_law 881 = .ok (.iconst 1, 1) := by decide +kernel
theorem dL_law_882 : decode cL_law 882 = .ok (.iadd, 1) := by decide +kernel
theorem dL_law_883 : decode cL_law 883 = .ok (.iaload, 1) := by decide +kernel
theorem dL_law_884 : decode cL_law 884 = .ok (.aload_n 0, 1) := by decide +kernel
theorem dL_law_885 : decode cL_law 885 = .ok (.iload_n 3, 1) := by decide +kernel
theorem dL_law_886 : decode cL_law 886 = .ok (.iconst 2, 1) := by decide +kernel
theorem dL_law_887 : decode cL_law 887 = .ok (.iadd, 1) := by decide +kernel
theorem dL_law_888 : decode cL_law 888 = .ok (.iaload, 1) := by decide +kernel
theorem dL_law_889 : decode cL_law 889 = .ok (.invokevirtual 101, 3) := by decide +kernel
theorem dL_law_892 : decode cL_law 892 = .ok (.aload_n 2, 1) := by decide +kernel
theorem dL_law_893 : decode cL_law 893 = .ok (.aload_n 0, 1) := by decide +kernel
theorem dL_law_894 : decode cL_law 894 = .ok (.iload_n 3, 1) := by decide +kernel
theorem dL_law_895 : decode cL_law 895 = .ok (.iconst 1, 1) := by decide +kernel
theorem dL_law_896 : decode cL_law 896 = .ok (.iadd, 1) := by decide +kernel
theorem dL_law_897 : decode cL_law 897 = .ok (.iaload, 1) := by decide +kernel
theorem dL_law_898 : decode cL_law 898 = .ok (.aload_n 0, 1) := by decide +kernel
theorem dL_law_899 : decode cL_law 899 = .ok (.iload_n 3, 1) := by decide +kernel
theorem dL_law_900 : decode cL_law 900 = .ok (.iconst 2, 1) := by decide +kernel
theorem dL_law_901 : decode cL_law 901 = .ok (.iadd, 1) := by decide +kernel
theorem dL_law_902 : decode cL_law 902 = .ok (.iaload, 1) := by decide +kernel
theorem dL_law_903 : decode cL_law 903 = .ok (.invokevirtual 104, 3) := by decide +kernel
theorem dL_law_906 : decode cL_law 906 = .ok (.if_icmp .eq 437, 3) := by decide +kernel
theorem dL_law_909 : decode cL_law 909 = .ok (.iconst 0, 1) := by decide +kernel
theorem dL_law_910 : decode cL_law 910 = .ok (.ireturn, 1) := by decide +kernel
theorem dL_law_911 : decode cL_law 911 = .ok (.aload_n 1, 1) := by decide +kernel
theorem dL_law_912 : decode cL_law 912 = .ok (.aload_n 0, 1) := by decide +kernel
theorem dL_law_913 : decode cL_law 913 = .ok (.iload_n 3, 1) := by decide +kernel
theorem dL_law_914 : decode cL_law 914 = .ok (.iconst 1, 1) := by decide +kernel
theorem dL_law_915 : decode cL_law 915 = .ok (.iadd, 1) := by decide +kernel
theorem dL_law_916 : decode cL_law 916 = .ok (.iaload, 1) := by decide +kernel
theorem dL_law_917 : decode cL_law 917 = .ok (.aload_n 0, 1) := by decide +kernel
theorem dL_law_918 : decode cL_law 918 = .ok (.iload_n 3, 1) := by decide +kernel
theorem dL_law_919 : decode cL_law 919 = .ok (.iconst 2, 1) := by decide +kernel
theorem dL_law_920 : decode cL_law 920 = .ok (.iadd, 1) := by decide +kernel
theorem dL_law_921 : decode cL_law 921 = .ok (.iaload, 1) := by decide +kernel
theorem dL_law_922 : decode cL_law 922 = .ok (.aload_n 0, 1) := by decide +kernel
theorem dL_law_923 : decode cL_law 923 = .ok (.iload_n 3, 1) := by decide +kernel
theorem dL_law_924 : decode cL_law 924 = .ok (.iconst 3, 1) := by decide +kernel
theorem dL_law_925 : decode cL_law 925 = .ok (.iadd, 1) := by decide +kernel
theorem dL_law_926 : decode cL_law 926 = .ok (.iaload, 1) := by decide +kernel
theorem dL_law_927 : decode cL_law 927 = .ok (.aload_n 0, 1) := by decide +kernel
theorem dL_law_928 : decode cL_law 928 = .ok (.iload_n 3, 1) := by decide +kernel
theorem dL_law_929 : decode cL_law 929 = .ok (.iconst 4, 1) := by decide +kernel
theorem dL_law_930 : decode cL_law 930 = .ok (.iadd, 1) := by decide +kernel
theorem dL_law_931 : decode cL_law 931 = .ok (.iaload, 1) := by decide +kernel
theorem dL_law_932 : decode cL_law 932 = .ok (.invokevirtual 105, 3) := by decide +kernel
theorem dL_law_935 : decode cL_law 935 = .ok (.aload_n 2, 1) := by decide +kernel
theorem dL_law_936 : decode cL_law 936 = .ok (.aload_n 0, 1) := by decide +kernel
theorem dL_law_937 : decode cL_law 937 = .ok (.iload_n 3, 1) := by decide +kernel
theorem dL_law_938 : decode cL_law 938 = .ok (.iconst 1, 1) := by decide +kernel
theorem dL_law_939 : decode cL_law 939 = .ok (.iadd, 1) := by decide +kernel
theorem dL_law_940 : decode cL_law 940 = .ok (.iaload, 1) := by decide +kernel
theorem dL_law_941 : decode cL_law 941 = .ok (.aload_n 0, 1) := by decide +kernel
theorem dL_law_942 : decode cL_law 942 = .ok (.iload_n 3, 1) := by decide +kernel
theorem dL_law_943 : decode cL_law 943 = .ok (.iconst 2, 1) := by decide +kernel
theorem dL_law_944 : decode cL_law 944 = .ok (.iadd, 1) := by decide +kernel
theorem dL_law_945 : decode cL_law 945 = .ok (.iaload, 1) := by decide +kernel
theorem dL_law_946 : decode cL_law 946 = .ok (.aload_n 0, 1) := by decide +kernel
theorem dL_law_947 : decode cL_law 947 = .ok (.iload_n 3, 1) := by decide +kernel
theorem dL_law_948 : decode cL_law 948 = .ok (.iconst 3, 1) := by decide +kernel
theorem dL_law_949 : decode cL_law 949 = .ok (.iadd, 1) := by decide +kernel
theorem dL_law_950 : decode cL_law 950 = .ok (.iaload, 1) := by decide +kernel
theorem dL_law_951 : decode cL_law 951 = .ok (.aload_n 0, 1) := by decide +kernel
theorem dL_law_952 : decode cL_law 952 = .ok (.iload_n 3, 1) := by decide +kernel
theorem dL_law_953 : decode cL_law 953 = .ok (.iconst 4, 1) := by decide +kernel
theorem dL_law_954 : decode cL_law 954 = .ok (.iadd, 1) := by decide +kernel
theorem dL_law_955 : decode cL_law 955 = .ok (.iaload, 1) := by decide +kernel
theorem dL_law_956 : decode cL_law 956 = .ok (.invokevirtual 109, 3) := by decide +kernel
theorem dL_law_959 : decode cL_law 959 = .ok (.if_icmp .eq 384, 3) := by decide +kernel
theorem dL_law_962 : decode cL_law 962 = .ok (.iconst 0, 1) := by decide +kernel
theorem dL_law_963 : decode cL_law 963 = .ok (.ireturn, 1) := by decide +kernel
theorem dL_law_964 : decode cL_law 964 = .ok (.aload_n 1, 1) := by decide +kernel
theorem dL_law_965 : decode cL_law 965 = .ok (.aload_n 0, 1) := by decide +kernel
theorem dL_law_966 : decode cL_law 966 = .ok (.iload_n 3, 1) := by decide +kernel
theorem dL_law_967 : decode cL_law 967 = .ok (.iconst 1, 1) := by decide +kernel
theorem dL_law_968 : decode cL_law 968 = .ok (.iadd, 1) := by decide +kernel
theorem dL_law_969 : decode cL_law 969 = .ok (.iaload, 1) := by decide +kernel
theorem dL_law_970 : decode cL_law 970 = .ok (.invokevirtual 110, 3) := by decide +kernel
theorem dL_law_973 : decode cL_law 973 = .ok (.aload_n 2, 1) := by decide +kernel
theorem dL_law_974 : decode cL_law 974 = .ok (.aload_n 0, 1) := by decide +kernel
theorem dL_law_975 : decode cL_law 975 = .ok (.iload_n 3, 1) := by decide +kernel
theorem dL_law_976 : decode cL_law 976 = .ok (.iconst 1, 1) := by decide +kernel
theorem dL_law_977 : decode cL_law 977 = .ok (.iadd, 1) := by decide +kernel
theorem dL_law_978 : decode cL_law 978 = .ok (.iaload, 1) := by decide +kernel
theorem dL_law_979 : decode cL_law 979 = .ok (.invokevirtual 113, 3) := by decide +kernel
theorem dL_law_982 : decode cL_law 982 = .ok (.if_icmp .eq 361, 3) := by decide +kernel
theorem dL_law_985 : decode cL_law 985 = .ok (.iconst 0, 1) := by decide +kernel
theorem dL_law_986 : decode cL_law 986 = .ok (.ireturn, 1) := by decide +kernel
theorem dL_law_987 : decode cL_law 987 = .ok (.aload_n 1, 1) := by decide +kernel
theorem dL_law_988 : decode cL_law 988 = .ok (.aload_n 0, 1) := by decide +kernel
theorem dL_law_989 : decode cL_law 989 = .ok (.iload_n 3, 1) := by decide +kernel
theorem dL_law_990 : decode cL_law 990 = .ok (.iconst 1, 1) := by decide +kernel
theorem dL_law_991 : decode cL_law 991 = .ok (.iadd, 1) := by decide +kernel
theorem dL_law_992 : decode cL_law 992 = .ok (.iaload, 1) := by decide +kernel
theorem dL_law_993 : decode cL_law 993 = .ok (.aload_n 0, 1) := by decide +kernel
theorem dL_law_994 : decode cL_law 994 = .ok (.iload_n 3, 1) := by decide +kernel
theorem dL_law_995 : decode cL_law 995 = .ok (.iconst 2, 1) := by decide +kernel
theorem dL_law_996 : decode cL_law 996 = .ok (.iadd, 1) := by decide +kernel
theorem dL_law_997 : decode cL_law 997 = .ok (.iaload, 1) := by decide +kernel
theorem dL_law_998 : decode cL_law 998 = .ok (.aload_n 0, 1) := by decide +kernel
theorem dL_law_999 : decode cL_law 999 = .ok (.iload_n 3, 1) := by decide +kernel
theorem dL_law_1000 : decode cL_law 1000 = .ok (.iconst 3, 1) := by decide +kernel
theorem dL_law_1001 : decode cL_law 1001 = .ok (.iadd, 1) := by decide +kernel
theorem dL_law_1002 : decode cL_law 1002 = .ok (.iaload, 1) := by decide +kernel
theorem dL_law_1003 : decode cL_law 1003 = .ok (.invokevirtual 114, 3) := by decide +kernel
theorem dL_law_1006 : decode cL_law 1006 = .ok (.aload_n 2, 1) := by decide +kernel
theorem dL_law_1007 : decode cL_law 1007 = .ok (.aload_n 0, 1) := by decide +kernel
theorem dL_law_1008 : decode cL_law 1008 = .ok (.iload_n 3, 1) := by decide +kernel
theorem dL_law_1009 : decode cL_law 1009 = .ok (.iconst 1, 1) := by decide +kernel
theorem dL_law_1010 : decode cL_law 1010 = .ok (.iadd, 1) := by decide +kernel
theorem dL_law_1011 : decode cL_law 1011 = .ok (.iaload, 1) := by decide +kernel
theorem dL_law_1012 : decode cL_law 1012 = .ok (.aload_n 0, 1) := by decide +kernel
theorem dL_law_1013 : decode cL_law 1013 = .ok (.iload_n 3, 1) := by decide +kernel
theorem dL_law_1014 : decode cL_law 1014 = .ok (.iconst 2, 1) := by decide +kernel
theorem dL_law_1015 : decode cL_law 1015 = .ok (.iadd, 1) := by decide +kernel
theorem dL_law_1016 : decode cL_law 1016 = .ok (.iaload, 1) := by decide +kernel
theorem dL_law_1017 : decode cL_law 1017 = .ok (.aload_n 0, 1) := by decide +kernel
theorem dL_law_1018 : decode cL_law 1018 = .ok (.iload_n 3, 1) := by decide +kernel
theorem dL_law_1019 : decode cL_law 1019 = .ok (.iconst 3, 1) := by decide +kernel
theorem dL_law_1020 : decode cL_law 1020 = .ok (.iadd, 1) := by decide +kernel
theorem dL_law_1021 : decode cL_law 1021 = .ok (.iaload, 1) := by decide +kernel
theorem dL_law_1022 : decode cL_law 1022 = .ok (.invokevirtual 117, 3) := by decide +kernel
theorem dL_law_1025 : decode cL_law 1025 = .ok (.if_icmp .eq 318, 3) := by decide +kernel
theorem dL_law_1028 : decode cL_law 1028 = .ok (.iconst 0, 1) := by decide +kernel
theorem dL_law_1029 : decode cL_law 1029 = .ok (.ireturn, 1) := by decide +kernel
theorem dL_law_1030 : decode cL_law 1030 = .ok (.aload_n 1, 1) := by decide +kernel
theorem dL_law_1031 : decode cL_law 1031 = .ok (.aload_n 0, 1) := by decide +kernel
theorem dL_law_1032 : decode cL_law 1032 = .ok (.iload_n 3, 1) := by decide +kernel
theorem dL_law_1033 : decode cL_law 1033 = .ok (.iconst 1, 1) := by decide +kernel
theorem dL_law_1034 : decode cL_law 1034 = .ok (.iadd, 1) := by decide +kernel
theorem dL_law_1035 : decode cL_law 1035 = .ok (.iaload, 1) := by decide +kernel
theorem dL_law_1036 : decode cL_law 1036 = .ok (.invokevirtual 118, 3) := by decide +kernel
theorem dL_law_1039 : decode cL_law 1039 = .ok (.aload_n 2, 1) := by decide +kernel
theorem dL_law_1040 : decode cL_law 1040 = .ok (.aload_n 0, 1) := by decide +kernel
theorem dL_law_1041 : decode cL_law 1041 = .ok (.iload_n 3, 1) := by decide +kernel
theorem dL_law_1042 : decode cL_law 1042 = .ok (.iconst 1, 1) := by decide +kernel
theorem dL_law_1043 : decode cL_law 1043 = .ok (.iadd, 1) := by decide +kernel
theorem dL_law_1044 : decode cL_law 1044 = .ok (.iaload, 1) := by decide +kernel
theorem dL_law_1045 : decode cL_law 1045 = .ok (.invokevirtual 121, 3) := by decide +kernel
theorem dL_law_1048 : decode cL_law 1048 = .ok (.if_icmp .eq 295, 3) := by decide +kernel
theorem dL_law_1051 : decode cL_law 1051 = .ok (.iconst 0, 1) := by decide +kernel
theorem dL_law_1052 : decode cL_law 1052 = .ok (.ireturn, 1) := by decide +kernel
theorem dL_law_1053 : decode cL_law 1053 = .ok (.aload_n 1, 1) := by decide +kernel
theorem dL_law_1054 : decode cL_law 1054 = .ok (.aload_n 0, 1) := by decide +kernel
theorem dL_law_1055 : decode cL_law 1055 = .ok (.iload_n 3, 1) := by decide +kernel
theorem dL_law_1056 : decode cL_law 1056 = .ok (.iconst 1, 1) := by decide +kernel
theorem dL_law_1057 : decode cL_law 1057 = .ok (.iadd, 1) := by decide +kernel
theorem dL_law_1058 : decode cL_law 1058 = .ok (.iaload, 1) := by decide +kernel
theorem dL_law_1059 : decode cL_law 1059 = .ok (.aload_n 0, 1) := by decide +kernel
theorem dL_law_1060 : decode cL_law 1060 = .ok (.iload_n 3, 1) := by decide +kernel
theorem dL_law_1061 : decode cL_law 1061 = .ok (.iconst 2, 1) := by decide +kernel
theorem dL_law_1062 : decode cL_law 1062 = .ok (.iadd, 1) := by decide +kernel
theorem dL_law_1063 : decode cL_law 1063 = .ok (.iaload, 1) := by decide +kernel
theorem dL_law_1064 : decode cL_law 1064 = .ok (.aload_n 0, 1) := by decide +kernel
theorem dL_law_1065 : decode cL_law 1065 = .ok (.iload_n 3, 1) := by decide +kernel
theorem dL_law_1066 : decode cL_law 1066 = .ok (.iconst 3, 1) := by decide +kernel
theorem dL_law_1067 : decode cL_law 1067 = .ok (.iadd, 1) := by decide +kernel
theorem dL_law_1068 : decode cL_law 1068 = .ok (.iaload, 1) := by decide +kernel
theorem dL_law_1069 : decode cL_law 1069 = .ok (.invokevirtual 122, 3) := by decide +kernel
theorem dL_law_1072 : decode cL_law 1072 = .ok (.aload_n 2, 1) := by decide +kernel
theorem dL_law_1073 : decode cL_law 1073 = .ok (.aload_n 0, 1) := by decide +kernel
theorem dL_law_1074 : decode cL_law 1074 = .ok (.iload_n 3, 1) := by decide +kernel
theorem dL_law_1075 : decode cL_law 1075 = .ok (.iconst 1, 1) := by decide +kernel
theorem dL_law_1076 : decode cL_law 1076 = .ok (.iadd, 1) := by decide +kernel
theorem dL_law_1077 : decode cL_law 1077 = .ok (.iaload, 1) := by decide +kernel
theorem dL_law_1078 : decode cL_law 1078 = .ok (.aload_n 0, 1) := by decide +kernel
theorem dL_law_1079 : decode cL_law 1079 = .ok (.iload_n 3, 1) := by decide +kernel
theorem dL_law_1080 : decode cL_law 1080 = .ok (.iconst 2, 1) := by decide +kernel
theorem dL_law_1081 : decode cL_law 1081 = .ok (.iadd, 1) := by decide +kernel
theorem dL_law_1082 : decode cL_law 1082 = .ok (.iaload, 1) := by decide +kernel
theorem dL_law_1083 : decode cL_law 1083 = .ok (.aload_n 0, 1) := by decide +kernel
theorem dL_law_1084 : decode cL_law 1084 = .ok (.iload_n 3, 1) := by decide +kernel
theorem dL_law_1085 : decode cL_law 1085 = .ok (.iconst 3, 1) := by decide +kernel
theorem dL_law_1086 : decode cL_law 1086 = .ok (.iadd, 1) := by decide +kernel
theorem dL_law_1087 : decode cL_law 1087 = .ok (.iaload, 1) := by decide +kernel
theorem dL_law_1088 : decode cL_law 1088 = .ok (.invokevirtual 125, 3) := by decide +kernel
theorem dL_law_1091 : decode cL_law 1091 = .ok (.if_icmp .eq 252, 3) := by decide +kernel
theorem dL_law_1094 : decode cL_law 1094 = .ok (.iconst 0, 1) := by decide +kernel
theorem dL_law_1095 : decode cL_law 1095 = .ok (.ireturn, 1) := by decide +kernel
theorem dL_law_1096 : decode cL_law 1096 = .ok (.aload_n 1, 1) := by decide +kernel
theorem dL_law_1097 : decode cL_law 1097 = .ok (.aload_n 0, 1) := by decide +kernel
theorem dL_law_1098 : decode cL_law 1098 = .ok (.iload_n 3, 1) := by decide +kernel
theorem dL_law_1099 : decode cL_law 1099 = .ok (.iconst 1, 1) := by decide +kernel
theorem dL_law_1100 : decode cL_law 1100 = .ok (.iadd, 1) := by decide +kernel
theorem dL_law_1101 : decode cL_law 1101 = .ok (.iaload, 1) := by decide +kernel
theorem dL_law_1102 : decode cL_law 1102 = .ok (.aload_n 0, 1) := by decide +kernel
theorem dL_law_1103 : decode cL_law 1103 = .ok (.iload_n 3, 1) := by decide +kernel
theorem dL_law_1104 : decode cL_law 1104 = .ok (.iconst 2, 1) := by decide +kernel
theorem dL_law_1105 : decode cL_law 1105 = .ok (.iadd, 1) := by decide +kernel
theorem dL_law_1106 : decode cL_law 1106 = .ok (.iaload, 1) := by decide +kernel
theorem dL_law_1107 : decode cL_law 1107 = .ok (.aload_n 0, 1) := by decide +kernel
theorem dL_law_1108 : decode cL_law 1108 = .ok (.iload_n 3, 1) := by decide +kernel
theorem dL_law_1109 : decode cL_law 1109 = .ok (.iconst 3, 1) := by decide +kernel
theorem dL_law_1110 : decode cL_law 1110 = .ok (.iadd, 1) := by decide +kernel
theorem dL_law_1111 : decode cL_law 1111 = .ok (.iaload, 1) := by decide +kernel
theorem dL_law_1112 : decode cL_law 1112 = .ok (.invokevirtual 126, 3) := by decide +kernel
theorem dL_law_1115 : decode cL_law 1115 = .ok (.aload_n 2, 1) := by decide +kernel
theorem dL_law_1116 : decode cL_law 1116 = .ok (.aload_n 0, 1) := by decide +kernel
theorem dL_law_1117 : decode cL_law 1117 = .ok (.iload_n 3, 1) := by decide +kernel
theorem dL_law_1118 : decode cL_law 1118 = .ok (.iconst 1, 1) := by decide +kernel
theorem dL_law_1119 : decode cL_law 1119 = .ok (.iadd, 1) := by decide +kernel
theorem dL_law_1120 : decode cL_law 1120 = .ok (.iaload, 1) := by decide +kernel
theorem dL_law_1121 : decode cL_law 1121 = .ok (.aload_n 0, 1) := by decide +kernel
theorem dL_law_1122 : decode cL_law 1122 = .ok (.iload_n 3, 1) := by decide +kernel
theorem dL_law_1123 : decode cL_law 1123 = .ok (.iconst 2, 1) := by decide +kernel
theorem dL_law_1124 : decode cL_law 1124 = .ok (.iadd, 1) := by decide +kernel
theorem dL_law_1125 : decode cL_law 1125 = .ok (.iaload, 1) := by decide +kernel
theorem dL_law_1126 : decode cL_law 1126 = .ok (.aload_n 0, 1) := by decide +kernel
theorem dL_law_1127 : decode cL_law 1127 = .ok (.iload_n 3, 1) := by decide +kernel
theorem dL_law_1128 : decode cL_law 1128 = .ok (.iconst 3, 1) := by decide +kernel
theorem dL_law_1129 : decode cL_law 1129 = .ok (.iadd, 1) := by decide +kernel
theorem dL_law_1130 : decode cL_law 1130 = .ok (.iaload, 1) := by decide +kernel
theorem dL_law_1131 : decode cL_law 1131 = .ok (.invokevirtual 129, 3) := by decide +kernel
theorem dL_law_1134 : decode cL_law 1134 = .ok (.if_icmp .eq 209, 3) := by decide +kernel
theorem dL_law_1137 : decode cL_law 1137 = .ok (.iconst 0, 1) := by decide +kernel
theorem dL_law_1138 : decode cL_law 1138 = .ok (.ireturn, 1) := by decide +kernel
theorem dL_law_1139 : decode cL_law 1139 = .ok (.aload_n 1, 1) := by decide +kernel
theorem dL_law_1140 : decode cL_law 1140 = .ok (.aload_n 0, 1) := by decide +kernel
theorem dL_law_1141 : decode cL_law 1141 = .ok (.iload_n 3, 1) := by decide +kernel
theorem dL_law_1142 : decode cL_law 1142 = .ok (.iconst 1, 1) := by decide +kernel
theorem dL_law_1143 : decode cL_law 1143 = .ok (.iadd, 1) := by decide +kernel
theorem dL_law_1144 : decode cL_law 1144 = .ok (.iaload, 1) := by decide +kernel
theorem dL_law_1145 : decode cL_law 1145 = .ok (.aload_n 0, 1) := by decide +kernel
theorem dL_law_1146 : decode cL_law 1146 = .ok (.iload_n 3, 1) := by decide +kernel
theorem dL_law_1147 : decode cL_law 1147 = .ok (.iconst 2, 1) := by decide +kernel
theorem dL_law_1148 : decode cL_law 1148 = .ok (.iadd, 1) := by decide +kernel
theorem dL_law_1149 : decode cL_law 1149 = .ok (.iaload, 1) := by decide +kernel
theorem dL_law_1150 : decode cL_law 1150 = .ok (.aload_n 0, 1) := by decide +kernel
theorem dL_law_1151 : decode cL_law 1151 = .ok (.iload_n 3, 1) := by decide +kernel
theorem dL_law_1152 : decode cL_law 1152 = .ok (.iconst 3, 1) := by decide +kernel
theorem dL_law_1153 : decode cL_law 1153 = .ok (.iadd, 1) := by decide +kernel
theorem dL_law_1154 : decode cL_law 1154 = .ok (.iaload, 1) := by decide +kernel
theorem dL_law_1155 : decode cL_law 1155 = .ok (.aload_n 0, 1) := by decide +kernel
theorem dL_law_1156 : decode cL_law 1156 = .ok (.iload_n 3, 1) := by decide +kernel
theorem dL_law_1157 : decode cL_law 1157 = .ok (.iconst 4, 1) := by decide +kernel
theorem dL_law_1158 : decode cL_law 1158 = .ok (.iadd, 1) := by decide +kernel
theorem dL_law_1159 : decode cL_law 1159 = .ok (.iaload, 1) := by decide +kernel
theorem dL_law_1160 : decode cL_law 1160 = .ok (.aload_n 0, 1) := by decide +kernel
theorem dL_law_1161 : decode cL_law 1161 = .ok (.iload_n 3, 1) := by decide +kernel
theorem dL_law_1162 : decode cL_law 1162 = .ok (.iconst 5, 1) := by decide +kernel
theorem dL_law_1163 : decode cL_law 1163 = .ok (.iadd, 1) := by decide +kernel
theorem dL_law_1164 : decode cL_law 1164 = .ok (.iaload, 1) := by decide +kernel
theorem dL_law_1165 : decode cL_law 1165 = .ok (.invokevirtual 130, 3) := by decide +kernel
theorem dL_law_1168 : decode cL_law 1168 = .ok (.aload_n 2, 1) := by decide +kernel
theorem dL_law_1169 : decode cL_law 1169 = .ok (.aload_n 0, 1) := by decide +kernel
theorem dL_law_1170 : decode cL_law 1170 = .ok (.iload_n 3, 1) := by decide +kernel
theorem dL_law_1171 : decode cL_law 1171 = .ok (.iconst 1, 1) := by decide +kernel
theorem dL_law_1172 : decode cL_law 1172 = .ok (.iadd, 1) := by decide +kernel
theorem dL_law_1173 : decode cL_law 1173 = .ok (.iaload, 1) := by decide +kernel
theorem dL_law_1174 : decode cL_law 1174 = .ok (.aload_n 0, 1) := by decide +kernel
theorem dL_law_1175 : decode cL_law 1175 = .ok (.iload_n 3, 1) := by decide +kernel
theorem dL_law_1176 : decode cL_law 1176 = .ok (.iconst 2, 1) := by decide +kernel
theorem dL_law_1177 : decode cL_law 1177 = .ok (.iadd, 1) := by decide +kernel
theorem dL_law_1178 : decode cL_law 1178 = .ok (.iaload, 1) := by decide +kernel
theorem dL_law_1179 : decode cL_law 1179 = .ok (.aload_n 0, 1) := by decide +kernel
theorem dL_law_1180 : decode cL_law 1180 = .ok (.iload_n 3, 1) := by decide +kernel
theorem dL_law_1181 : decode cL_law 1181 = .ok (.iconst 3, 1) := by decide +kernel
theorem dL_law_1182 : decode cL_law 1182 = .ok (.iadd, 1) := by decide +kernel
theorem dL_law_1183 : decode cL_law 1183 = .ok (.iaload, 1) := by decide +kernel
theorem dL_law_1184 : decode cL_law 1184 = .ok (.aload_n 0, 1) := by decide +kernel
theorem dL_law_1185 : decode cL_law 1185 = .ok (.iload_n 3, 1) := by decide +kernel
theorem dL_law_1186 : decode cL_law 1186 = .ok (.iconst 4, 1) := by decide +kernel
theorem dL_law_1187 : decode cL_law 1187 = .ok (.iadd, 1) := by decide +kernel
theorem dL_law_1188 : decode cL_law 1188 = .ok (.iaload, 1) := by decide +kernel
theorem dL_law_1189 : decode cL_law 1189 = .ok (.aload_n 0, 1) := by decide +kernel
theorem dL_law_1190 : decode cL_law 1190 = .ok (.iload_n 3, 1) := by decide +kernel
theorem dL_law_1191 : decode cL_law 1191 = .ok (.iconst 5, 1) := by decide +kernel
theorem dL_law_1192 : decode cL_law 1192 = .ok (.iadd, 1) := by decide +kernel
theorem dL_law_1193 : decode cL_law 1193 = .ok (.iaload, 1) := by decide +kernel
theorem dL_law_1194 : decode cL_law 1194 = .ok (.invokevirtual 133, 3) := by decide +kernel
theorem dL_law_1197 : decode cL_law 1197 = .ok (.if_icmp .eq 146, 3) := by decide +kernel
theorem dL_law_1200 : decode cL_law 1200 = .ok (.iconst 0, 1) := by decide +kernel
theorem dL_law_1201 : decode cL_law 1201 = .ok (.ireturn, 1) := by decide +kernel
theorem dL_law_1202 : decode cL_law 1202 = .ok (.aload_n 1, 1) := by decide +kernel
theorem dL_law_1203 : decode cL_law 1203 = .ok (.aload_n 0, 1) := by decide +kernel
theorem dL_law_1204 : decode cL_law 1204 = .ok (.iload_n 3, 1) := by decide +kernel
theorem dL_law_1205 : decode cL_law 1205 = .ok (.iconst 1, 1) := by decide +kernel
theorem dL_law_1206 : decode cL_law 1206 = .ok (.iadd, 1) := by decide +kernel
theorem dL_law_1207 : decode cL_law 1207 = .ok (.iaload, 1) := by decide +kernel
theorem dL_law_1208 : decode cL_law 1208 = .ok (.invokevirtual 134, 3) := by decide +kernel
theorem dL_law_1211 : decode cL_law 1211 = .ok (.aload_n 2, 1) := by decide +kernel
theorem dL_law_1212 : decode cL_law 1212 = .ok (.aload_n 0, 1) := by decide +kernel
theorem dL_law_1213 : decode cL_law 1213 = .ok (.iload_n 3, 1) := by decide +kernel
theorem dL_law_1214 : decode cL_law 1214 = .ok (.iconst 1, 1) := by decide +kernel
theorem dL_law_1215 : decode cL_law 1215 = .ok (.iadd, 1) := by decide +kernel
theorem dL_law_1216 : decode cL_law 1216 = .ok (.iaload, 1) := by decide +kernel
theorem dL_law_1217 : decode cL_law 1217 = .ok (.invokevirtual 137, 3) := by decide +kernel
theorem dL_law_1220 : decode cL_law 1220 = .ok (.if_icmp .eq 123, 3) := by decide +kernel
theorem dL_law_1223 : decode cL_law 1223 = .ok (.iconst 0, 1) := by decide +kernel
theorem dL_law_1224 : decode cL_law 1224 = .ok (.ireturn, 1) := by decide +kernel
theorem dL_law_1225 : decode cL_law 1225 = .ok (.aload_n 1, 1) := by decide +kernel
theorem dL_law_1226 : decode cL_law 1226 = .ok (.invokevirtual 138, 3) := by decide +kernel
theorem dL_law_1229 : decode cL_law 1229 = .ok (.aload_n 2, 1) := by decide +kernel
theorem dL_law_1230 : decode cL_law 1230 = .ok (.invokevirtual 141, 3) := by decide +kernel
theorem dL_law_1233 : decode cL_law 1233 = .ok (.if_icmp .eq 110, 3) := by decide +kernel
theorem dL_law_1236 : decode cL_law 1236 = .ok (.iconst 0, 1) := by decide +kernel
theorem dL_law_1237 : decode cL_law 1237 = .ok (.ireturn, 1) := by decide +kernel
theorem dL_law_1238 : decode cL_law 1238 = .ok (.aload_n 1, 1) := by decide +kernel
theorem dL_law_1239 : decode cL_law 1239 = .ok (.invokevirtual 142, 3) := by decide +kernel
theorem dL_law_1242 : decode cL_law 1242 = .ok (.aload_n 2, 1) := by decide +kernel
theorem dL_law_1243 : decode cL_law 1243 = .ok (.invokevirtual 145, 3) := by decide +kernel
theorem dL_law_1246 : decode cL_law 1246 = .ok (.if_icmp .eq 97, 3) := by decide +kernel
theorem dL_law_1249 : decode cL_law 1249 = .ok (.iconst 0, 1) := by decide +kernel
theorem dL_law_1250 : decode cL_law 1250 = .ok (.ireturn, 1) := by decide +kernel
theorem dL_law_1251 : decode cL_law 1251 = .ok (.aload_n 1, 1) := by decide +kernel
theorem dL_law_1252 : decode cL_law 1252 = .ok (.aload_n 0, 1) := by decide +kernel
theorem dL_law_1253 : decode cL_law 1253 = .ok (.iload_n 3, 1) := by decide +kernel
theorem dL_law_1254 : decode cL_law 1254 = .ok (.iconst 1, 1) := by decide +kernel
theorem dL_law_1255 : decode cL_law 1255 = .ok (.iadd, 1) := by decide +kernel
theorem dL_law_1256 : decode cL_law 1256 = .ok (.iaload, 1) := by decide +kernel
theorem dL_law_1257 : decode cL_law 1257 = .ok (.invokevirtual 146, 3) := by decide +kernel
theorem dL_law_1260 : decode cL_law 1260 = .ok (.aload_n 2, 1) := by decide +kernel
theorem dL_law_1261 : decode cL_law 1261 = .ok (.aload_n 0, 1) := by decide +kernel
theorem dL_law_1262 : decode cL_law 1262 = .ok (.iload_n 3, 1) := by decide +kernel
theorem dL_law_1263 : decode cL_law 1263 = .ok (.iconst 1, 1) := by decide +kernel
theorem dL_law_1264 : decode cL_law 1264 = .ok (.iadd, 1) := by decide +kernel
theorem dL_law_1265 : decode cL_law 1265 = .ok (.iaload, 1) := by decide +kernel
theorem dL_law_1266 : decode cL_law 1266 = .ok (.invokevirtual 149, 3) := by decide +kernel
theorem dL_law_1269 : decode cL_law 1269 = .ok (.if_icmp .eq 74, 3) := by decide +kernel
theorem dL_law_1272 : decode cL_law 1272 = .ok (.iconst 0, 1) := by decide +kernel
theorem dL_law_1273 : decode cL_law 1273 = .ok (.ireturn, 1) := by decide +kernel
theorem dL_law_1274 : decode cL_law 1274 = .ok (.aload_n 1, 1) := by decide +kernel
theorem dL_law_1275 : decode cL_law 1275 = .ok (.aload_n 0, 1) := by decide +kernel
theorem dL_law_1276 : decode cL_law 1276 = .ok (.iload_n 3, 1) := by decide +kernel
theorem dL_law_1277 : decode cL_law 1277 = .ok (.iconst 1, 1) := by decide +kernel
theorem dL_law_1278 : decode cL_law 1278 = .ok (.iadd, 1) := by decide +kernel
theorem dL_law_1279 : decode cL_law 1279 = .ok (.iaload, 1) := by decide +kernel
theorem dL_law_1280 : decode cL_law 1280 = .ok (.invokevirtual 150, 3) := by decide +kernel
theorem dL_law_1283 : decode cL_law 1283 = .ok (.aload_n 2, 1) := by decide +kernel
theorem dL_law_1284 : decode cL_law 1284 = .ok (.aload_n 0, 1) := by decide +kernel
theorem dL_law_1285 : decode cL_law 1285 = .ok (.iload_n 3, 1) := by decide +kernel
theorem dL_law_1286 : decode cL_law 1286 = .ok (.iconst 1, 1) := by decide +kernel
theorem dL_law_1287 : decode cL_law 1287 = .ok (.iadd, 1) := by decide +kernel
theorem dL_law_1288 : decode cL_law 1288 = .ok (.iaload, 1) := by decide +kernel
theorem dL_law_1289 : decode cL_law 1289 = .ok (.invokevirtual 153, 3) := by decide +kernel
theorem dL_law_1292 : decode cL_law 1292 = .ok (.if_icmp .eq 51, 3) := by decide +kernel
theorem dL_law_1295 : decode cL_law 1295 = .ok (.iconst 0, 1) := by decide +kernel
theorem dL_law_1296 : decode cL_law 1296 = .ok (.ireturn, 1) := by decide +kernel
theorem dL_law_1297 : decode cL_law 1297 = .ok (.aload_n 1, 1) := by decide +kernel
theorem dL_law_1298 : decode cL_law 1298 = .ok (.aload_n 0, 1) := by decide +kernel
theorem dL_law_1299 : decode cL_law 1299 = .ok (.iload_n 3, 1) := by decide +kernel
theorem dL_law_1300 : decode cL_law 1300 = .ok (.iconst 1, 1) := by decide +kernel
theorem dL_law_1301 : decode cL_law 1301 = .ok (.iadd, 1) := by decide +kernel
theorem dL_law_1302 : decode cL_law 1302 = .ok (.iaload, 1) := by decide +kernel
theorem dL_law_1303 : decode cL_law 1303 = .ok (.invokevirtual 154, 3) := by decide +kernel
theorem dL_law_1306 : decode cL_law 1306 = .ok (.aload_n 2, 1) := by decide +kernel
theorem dL_law_1307 : decode cL_law 1307 = .ok (.aload_n 0, 1) := by decide +kernel
theorem dL_law_1308 : decode cL_law 1308 = .ok (.iload_n 3, 1) := by decide +kernel
theorem dL_law_1309 : decode cL_law 1309 = .ok (.iconst 1, 1) := by decide +kernel
theorem dL_law_1310 : decode cL_law 1310 = .ok (.iadd, 1) := by decide +kernel
theorem dL_law_1311 : decode cL_law 1311 = .ok (.iaload, 1) := by decide +kernel
theorem dL_law_1312 : decode cL_law 1312 = .ok (.invokevirtual 157, 3) := by decide +kernel
theorem dL_law_1315 : decode cL_law 1315 = .ok (.if_icmp .eq 28, 3) := by decide +kernel
theorem dL_law_1318 : decode cL_law 1318 = .ok (.iconst 0, 1) := by decide +kernel
theorem dL_law_1319 : decode cL_law 1319 = .ok (.ireturn, 1) := by decide +kernel
theorem dL_law_1320 : decode cL_law 1320 = .ok (.aload_n 1, 1) := by decide +kernel
theorem dL_law_1321 : decode cL_law 1321 = .ok (.aload_n 0, 1) := by decide +kernel
theorem dL_law_1322 : decode cL_law 1322 = .ok (.iload_n 3, 1) := by decide +kernel
theorem dL_law_1323 : decode cL_law 1323 = .ok (.iconst 1, 1) := by decide +kernel
theorem dL_law_1324 : decode cL_law 1324 = .ok (.iadd, 1) := by decide +kernel
theorem dL_law_1325 : decode cL_law 1325 = .ok (.iaload, 1) := by decide +kernel
theorem dL_law_1326 : decode cL_law 1326 = .ok (.invokevirtual 158, 3) := by decide +kernel
theorem dL_law_1329 : decode cL_law 1329 = .ok (.aload_n 2, 1) := by decide +kernel
theorem dL_law_1330 : decode cL_law 1330 = .ok (.aload_n 0, 1) := by decide +kernel
theorem dL_law_1331 : decode cL_law 1331 = .ok (.iload_n 3, 1) := by decide +kernel
theorem dL_law_1332 : decode cL_law 1332 = .ok (.iconst 1, 1) := by decide +kernel
theorem dL_law_1333 : decode cL_law 1333 = .ok (.iadd, 1) := by decide +kernel
theorem dL_law_1334 : decode cL_law 1334 = .ok (.iaload, 1) := by decide +kernel
theorem dL_law_1335 : decode cL_law 1335 = .ok (.invokevirtual 161, 3) := by decide +kernel
theorem dL_law_1338 : decode cL_law 1338 = .ok (.if_icmp .eq 5, 3) := by decide +kernel
theorem dL_law_1341 : decode cL_law 1341 = .ok (.iconst 0, 1) := by decide +kernel
theorem dL_law_1342 : decode cL_law 1342 = .ok (.ireturn, 1) := by decide +kernel
theorem dL_law_1343 : decode cL_law 1343 = .ok (.iinc 3 6, 3) := by decide +kernel
theorem dL_law_1346 : decode cL_law 1346 = .ok (.goto (-1328), 3) := by decide +kernel
theorem dL_law_1349 : decode cL_law 1349 = .ok (.iconst 1, 1) := by decide +kernel
theorem dL_law_1350 : decode cL_law 1350 = .ok (.ireturn, 1) := by decide +kernel
