theorem dX0_init_0 : decode cX0_init 0 = .ok (.aload_n 0, 1) := by decide +kernel
theorem dX0_init_1 : decode cX0_init 1 = .ok (.invokespecial 3, 3) := by decide +kernel
theorem dX0_init_4 : decode cX0_init 4 = .ok (.aload_n 0, 1) := by decide +kernel
theorem dX0_init_5 : decode cX0_init 5 = .ok (.bipush 8, 2) := by decide +kernel
theorem dX0_init_7 : decode cX0_init 7 = .ok (.newarray .int, 2) := by decide +kernel
theorem dX0_init_9 : decode cX0_init 9 = .ok (.putfield 9, 3) := by decide +kernel
theorem dX0_init_12 : decode cX0_init 12 = .ok (.aload_n 0, 1) := by decide +kernel
theorem dX0_init_13 : decode cX0_init 13 = .ok (.bipush 8, 2) := by decide +kernel
theorem dX0_init_15 : decode cX0_init 15 = .ok (.newarray .int, 2) := by decide +kernel
theorem dX0_init_17 : decode cX0_init 17 = .ok (.putfield 15, 3) := by decide +kernel
theorem dX0_init_20 : decode cX0_init 20 = .ok (.aload_n 0, 1) := by decide +kernel
theorem dX0_init_21 : decode cX0_init 21 = .ok (.bipush 8, 2) := by decide +kernel
theorem dX0_init_23 : decode cX0_init 23 = .ok (.newarray .int, 2) := by decide +kernel
theorem dX0_init_25 : decode cX0_init 25 = .ok (.putfield 18, 3) := by decide +kernel
theorem dX0_init_28 : decode cX0_init 28 = .ok (.aload_n 0, 1) := by decide +kernel
theorem dX0_init_29 : decode cX0_init 29 = .ok (.bipush 8, 2) := by decide +kernel
theorem dX0_init_31 : decode cX0_init 31 = .ok (.newarray .int, 2) := by decide +kernel
theorem dX0_init_33 : decode cX0_init 33 = .ok (.putfield 21, 3) := by decide +kernel
theorem dX0_init_36 : decode cX0_init 36 = .ok (.aload_n 0, 1) := by decide +kernel
theorem dX0_init_37 : decode cX0_init 37 = .ok (.bipush 64, 2) := by decide +kernel
theorem dX0_init_39 : decode cX0_init 39 = .ok (.newarray .int, 2) := by decide +kernel
theorem dX0_init_41 : decode cX0_init 41 = .ok (.putfield 24, 3) := by decide +kernel
theorem dX0_init_44 : decode cX0_init 44 = .ok (.aload_n 0, 1) := by decide +kernel
theorem dX0_init_45 : decode cX0_init 45 = .ok (.bipush 64, 2) := by decide +kernel
theorem dX0_init_47 : decode cX0_init 47 = .ok (.newarray .int, 2) := by decide +kernel
theorem dX0_init_49 : decode cX0_init 49 = .ok (.putfield 27, 3) := by decide +kernel
theorem dX0_init_52 : decode cX0_init 52 = .ok (.return_, 1) := by decide +kernel
theorem dX0_clear_0 : decode cX0_clear 0 = .ok (.aload_n 0, 1) := by decide +kernel
theorem dX0_clear_1 : decode cX0_clear 1 = .ok (.getfield 9, 3) := by decide +kernel
theorem dX0_clear_4 : decode cX0_clear 4 = .ok (.iconst (-1), 1) := by decide +kernel
theorem dX0_clear_5 : decode cX0_clear 5 = .ok (.invokestatic 30, 3) := by decide +kernel
theorem dX0_clear_8 : decode cX0_clear 8 = .ok (.aload_n 0, 1) := by decide +kernel
theorem dX0_clear_9 : decode cX0_clear 9 = .ok (.getfield 15, 3) := by decide +kernel
theorem dX0_clear_12 : decode cX0_clear 12 = .ok (.iconst (-1), 1) := by decide +kernel
theorem dX0_clear_13 : decode cX0_clear 13 = .ok (.invokestatic 30, 3) := by decide +kernel
theorem dX0_clear_16 : decode cX0_clear 16 = .ok (.aload_n 0, 1) := by decide +kernel
theorem dX0_clear_17 : decode cX0_clear 17 = .ok (.getfield 18, 3) := by decide +kernel
theorem dX0_clear_20 : decode cX0_clear 20 = .ok (.iconst 0, 1) := by decide +kernel
theorem dX0_clear_21 : decode cX0_clear 21 = .ok (.invokestatic 30, 3) := by decide +kernel
theorem dX0_clear_24 : decode cX0_clear 24 = .ok (.return_, 1) := by decide +kernel
theorem dX0_close_0 : decode cX0_close 0 = .ok (.aload_n 0, 1) := by decide +kernel
theorem dX0_close_1 : decode cX0_close 1 = .ok (.getfield 24, 3) := by decide +kernel
theorem dX0_close_4 : decode cX0_close 4 = .ok (.iconst (-1), 1) := by decide +kernel
theorem dX0_close_5 : decode cX0_close 5 = .ok (.invokestatic 30, 3) := by decide +kernel
theorem dX0_close_8 : decode cX0_close 8 = .ok (.aload_n 0, 1) := by decide +kernel
theorem dX0_close_9 : decode cX0_close 9 = .ok (.getfield 18, 3) := by decide +kernel
theorem dX0_close_12 : decode cX0_close 12 = .ok (.iconst 0, 1) := by decide +kernel
theorem dX0_close_13 : decode cX0_close 13 = .ok (.aload_n 0, 1) := by decide +kernel
theorem dX0_close_14 : decode cX0_close 14 = .ok (.getfield 21, 3) := by decide +kernel
theorem dX0_close_17 : decode cX0_close 17 = .ok (.iconst 0, 1) := by decide +kernel
theorem dX0_close_18 : decode cX0_close 18 = .ok (.bipush 8, 2) := by decide +kernel
theorem dX0_close_20 : decode cX0_close 20 = .ok (.invokestatic 36, 3) := by decide +kernel
theorem dX0_close_23 : decode cX0_close 23 = .ok (.iconst 0, 1) := by decide +kernel
theorem dX0_close_24 : decode cX0_close 24 = .ok (.istore_n 2, 1) := by decide +kernel
theorem dX0_close_25 : decode cX0_close 25 = .ok (.iload_n 2, 1) := by decide +kernel
theorem dX0_close_26 : decode cX0_close 26 = .ok (.iload_n 1, 1) := by decide +kernel
theorem dX0_close_27 : decode cX0_close 27 = .ok (.if_icmp .ge 43, 3) := by decide +kernel
theorem dX0_close_30 : decode cX0_close 30 = .ok (.aload_n 0, 1) := by decide +kernel
theorem dX0_close_31 : decode cX0_close 31 = .ok (.getfield 24, 3) := by decide +kernel
theorem dX0_close_34 : decode cX0_close 34 = .ok (.iload_n 2, 1) := by decide +kernel
theorem dX0_close_35 : decode cX0_close 35 = .ok (.bipush 8, 2) := by decide +kernel
theorem dX0_close_37 : decode cX0_close 37 = .ok (.imul, 1) := by decide +kernel
theorem dX0_close_38 : decode cX0_close 38 = .ok (.iload_n 2, 1) := by decide +kernel
theorem dX0_close_39 : decode cX0_close 39 = .ok (.iadd, 1) := by decide +kernel
theorem dX0_close_40 : decode cX0_close 40 = .ok (.iconst 0, 1) := by decide +kernel
theorem dX0_close_41 : decode cX0_close 41 = .ok (.iastore, 1) := by decide +kernel
theorem dX0_close_42 : decode cX0_close 42 = .ok (.aload_n 0, 1) := by decide +kernel
theorem dX0_close_43 : decode cX0_close 43 = .ok (.iload_n 2, 1) := by decide +kernel
theorem dX0_close_44 : decode cX0_close 44 = .ok (.aload_n 0, 1) := by decide +kernel
theorem dX0_close_45 : decode cX0_close 45 = .ok (.getfield 9, 3) := by decide +kernel
theorem dX0_close_48 : decode cX0_close 48 = .ok (.iload_n 2, 1) := by decide +kernel
theorem dX0_close_49 : decode cX0_close 49 = .ok (.iaload, 1) := by decide +kernel
theorem dX0_close_50 : decode cX0_close 50 = .ok (.invokevirtual 42, 3) := by decide +kernel
theorem dX0_close_53 : decode cX0_close 53 = .ok (.aload_n 0, 1) := by decide +kernel
theorem dX0_close_54 : decode cX0_close 54 = .ok (.iload_n 2, 1) := by decide +kernel
theorem dX0_close_55 : decode cX0_close 55 = .ok (.aload_n 0, 1) := by decide +kernel
theorem dX0_close_56 : decode cX0_close 56 = .ok (.getfield 15, 3) := by decide +kernel
theorem dX0_close_59 : decode cX0_close 59 = .ok (.iload_n 2, 1) := by decide +kernel
theorem dX0_close_60 : decode cX0_close 60 = .ok (.iaload, 1) := by decide +kernel
theorem dX0_close_61 : decode cX0_close 61 = .ok (.invokevirtual 42, 3) := by decide +kernel
theorem dX0_close_64 : decode cX0_close 64 = .ok (.iinc 2 1, 3) := by decide +kernel
theorem dX0_close_67 : decode cX0_close 67 = .ok (.goto (-42), 3) := by decide +kernel
theorem dX0_close_70 : decode cX0_close 70 = .ok (.iconst 0, 1) := by decide +kernel
theorem dX0_close_71 : decode cX0_close 71 = .ok (.istore_n 2, 1) := by decide +kernel
theorem dX0_close_72 : decode cX0_close 72 = .ok (.iload_n 2, 1) := by decide +kernel
theorem dX0_close_73 : decode cX0_close 73 = .ok (.bipush 8, 2) := by decide +kernel
theorem dX0_close_75 : decode cX0_close 75 = .ok (.if_icmp .ge 40, 3) := by decide +kernel
theorem dX0_close_78 : decode cX0_close 78 = .ok (.iconst 0, 1) := by decide +kernel
theorem dX0_close_79 : decode cX0_close 79 = .ok (.istore_n 3, 1) := by decide +kernel
theorem dX0_close_80 : decode cX0_close 80 = .ok (.iload_n 3, 1) := by decide +kernel
theorem dX0_close_81 : decode cX0_close 81 = .ok (.bipush 8, 2) := by decide +kernel
theorem dX0_close_83 : decode cX0_close 83 = .ok (.if_icmp .ge 26, 3) := by decide +kernel
theorem dX0_close_86 : decode cX0_close 86 = .ok (.aload_n 0, 1) := by decide +kernel
theorem dX0_close_87 : decode cX0_close 87 = .ok (.getfield 27, 3) := by decide +kernel
theorem dX0_close_90 : decode cX0_close 90 = .ok (.iload_n 2, 1) := by decide +kernel
theorem dX0_close_91 : decode cX0_close 91 = .ok (.bipush 8, 2) := by decide +kernel
theorem dX0_close_93 : decode cX0_close 93 = .ok (.imul, 1) := by decide +kernel
theorem dX0_close_94 : decode cX0_close 94 = .ok (.iload_n 3, 1) := by decide +kernel
theorem dX0_close_95 : decode cX0_close 95 = .ok (.iadd, 1) := by decide +kernel
theorem dX0_close_96 : decode cX0_close 96 = .ok (.aload_n 0, 1) := by decide +kernel
theorem dX0_close_97 : decode cX0_close 97 = .ok (.iload_n 2, 1) := by decide +kernel
theorem dX0_close_98 : decode cX0_close 98 = .ok (.iload_n 3, 1) := by decide +kernel
theorem dX0_close_99 : decode cX0_close 99 = .ok (.invokevirtual 46, 3) := by decide +kernel
theorem dX0_close_102 : decode cX0_close 102 = .ok (.iastore, 1) := by decide +kernel
theorem dX0_close_103 : decode cX0_close 103 = .ok (.iinc 3 1, 3) := by decide +kernel
theorem dX0_close_106 : decode cX0_close 106 = .ok (.goto (-26), 3) := by decide +kernel
theorem dX0_close_109 : decode cX0_close 109 = .ok (.iinc 2 1, 3) := by decide +kernel
theorem dX0_close_112 : decode cX0_close 112 = .ok (.goto (-40), 3) := by decide +kernel
theorem dX0_close_115 : decode cX0_close 115 = .ok (.return_, 1) := by decide +kernel
theorem dX0_bind_0 : decode cX0_bind 0 = .ok (.iload_n 2, 1) := by decide +kernel
theorem dX0_bind_1 : decode cX0_bind 1 = .ok (.ifCond .lt 8, 3) := by decide +kernel
theorem dX0_bind_4 : decode cX0_bind 4 = .ok (.iload_n 2, 1) := by decide +kernel
theorem dX0_bind_5 : decode cX0_bind 5 = .ok (.iload_n 1, 1) := by decide +kernel
theorem dX0_bind_6 : decode cX0_bind 6 = .ok (.if_icmp .lt 4, 3) := by decide +kernel
theorem dX0_bind_9 : decode cX0_bind 9 = .ok (.return_, 1) := by decide +kernel
theorem dX0_bind_10 : decode cX0_bind 10 = .ok (.aload_n 0, 1) := by decide +kernel
theorem dX0_bind_11 : decode cX0_bind 11 = .ok (.getfield 21, 3) := by decide +kernel
theorem dX0_bind_14 : decode cX0_bind 14 = .ok (.iload_n 1, 1) := by decide +kernel
theorem dX0_bind_15 : decode cX0_bind 15 = .ok (.dup2, 1) := by decide +kernel
theorem dX0_bind_16 : decode cX0_bind 16 = .ok (.iaload, 1) := by decide +kernel
theorem dX0_bind_17 : decode cX0_bind 17 = .ok (.iconst 1, 1) := by decide +kernel
theorem dX0_bind_18 : decode cX0_bind 18 = .ok (.iload_n 2, 1) := by decide +kernel
theorem dX0_bind_19 : decode cX0_bind 19 = .ok (.ishl, 1) := by decide +kernel
theorem dX0_bind_20 : decode cX0_bind 20 = .ok (.ior, 1) := by decide +kernel
theorem dX0_bind_21 : decode cX0_bind 21 = .ok (.iastore, 1) := by decide +kernel
theorem dX0_bind_22 : decode cX0_bind 22 = .ok (.aload_n 0, 1) := by decide +kernel
theorem dX0_bind_23 : decode cX0_bind 23 = .ok (.getfield 21, 3) := by decide +kernel
theorem dX0_bind_26 : decode cX0_bind 26 = .ok (.iload_n 2, 1) := by decide +kernel
theorem dX0_bind_27 : decode cX0_bind 27 = .ok (.dup2, 1) := by decide +kernel
theorem dX0_bind_28 : decode cX0_bind 28 = .ok (.iaload, 1) := by decide +kernel
theorem dX0_bind_29 : decode cX0_bind 29 = .ok (.iconst 1, 1) := by decide +kernel
theorem dX0_bind_30 : decode cX0_bind 30 = .ok (.iload_n 1, 1) := by decide +kernel
theorem dX0_bind_31 : decode cX0_bind 31 = .ok (.ishl, 1) := by decide +kernel
theorem dX0_bind_32 : decode cX0_bind 32 = .ok (.ior, 1) := by decide +kernel
theorem dX0_bind_33 : decode cX0_bind 33 = .ok (.iastore, 1) := by decide +kernel
theorem dX0_bind_34 : decode cX0_bind 34 = .ok (.iconst 0, 1) := by decide +kernel
theorem dX0_bind_35 : decode cX0_bind 35 = .ok (.istore_n 3, 1) := by decide +kernel
theorem dX0_bind_36 : decode cX0_bind 36 = .ok (.iload_n 3, 1) := by decide +kernel
theorem dX0_bind_37 : decode cX0_bind 37 = .ok (.bipush 8, 2) := by decide +kernel
theorem dX0_bind_39 : decode cX0_bind 39 = .ok (.if_icmp .ge 72, 3) := by decide +kernel
theorem dX0_bind_42 : decode cX0_bind 42 = .ok (.aload_n 0, 1) := by decide +kernel
theorem dX0_bind_43 : decode cX0_bind 43 = .ok (.getfield 24, 3) := by decide +kernel
theorem dX0_bind_46 : decode cX0_bind 46 = .ok (.iload_n 2, 1) := by decide +kernel
theorem dX0_bind_47 : decode cX0_bind 47 = .ok (.bipush 8, 2) := by decide +kernel
theorem dX0_bind_49 : decode cX0_bind 49 = .ok (.imul, 1) := by decide +kernel
theorem dX0_bind_50 : decode cX0_bind 50 = .ok (.iload_n 3, 1) := by decide +kernel
theorem dX0_bind_51 : decode cX0_bind 51 = .ok (.iadd, 1) := by decide +kernel
theorem dX0_bind_52 : decode cX0_bind 52 = .ok (.iaload, 1) := by decide +kernel
theorem dX0_bind_53 : decode cX0_bind 53 = .ok (.istore 4, 2) := by decide +kernel
theorem dX0_bind_55 : decode cX0_bind 55 = .ok (.iload_n 1, 1) := by decide +kernel
theorem dX0_bind_56 : decode cX0_bind 56 = .ok (.bipush 8, 2) := by decide +kernel
theorem dX0_bind_58 : decode cX0_bind 58 = .ok (.imul, 1) := by decide +kernel
theorem dX0_bind_59 : decode cX0_bind 59 = .ok (.iload_n 3, 1) := by decide +kernel
theorem dX0_bind_60 : decode cX0_bind 60 = .ok (.iadd, 1) := by decide +kernel
theorem dX0_bind_61 : decode cX0_bind 61 = .ok (.istore 5, 2) := by decide +kernel
theorem dX0_bind_63 : decode cX0_bind 63 = .ok (.iload 4, 2) := by decide +kernel
theorem dX0_bind_65 : decode cX0_bind 65 = .ok (.iconst (-1), 1) := by decide +kernel
theorem dX0_bind_66 : decode cX0_bind 66 = .ok (.if_icmp .eq 39, 3) := by decide +kernel
theorem dX0_bind_69 : decode cX0_bind 69 = .ok (.aload_n 0, 1) := by decide +kernel
theorem dX0_bind_70 : decode cX0_bind 70 = .ok (.getfield 24, 3) := by decide +kernel
theorem dX0_bind_73 : decode cX0_bind 73 = .ok (.iload 5, 2) := by decide +kernel
theorem dX0_bind_75 : decode cX0_bind 75 = .ok (.iaload, 1) := by decide +kernel
theorem dX0_bind_76 : decode cX0_bind 76 = .ok (.iconst (-1), 1) := by decide +kernel
theorem dX0_bind_77 : decode cX0_bind 77 = .ok (.if_icmp .eq 17, 3) := by decide +kernel
theorem dX0_bind_80 : decode cX0_bind 80 = .ok (.iload 4, 2) := by decide +kernel
theorem dX0_bind_82 : decode cX0_bind 82 = .ok (.iconst 1, 1) := by decide +kernel
theorem dX0_bind_83 : decode cX0_bind 83 = .ok (.iadd, 1) := by decide +kernel
theorem dX0_bind_84 : decode cX0_bind 84 = .ok (.aload_n 0, 1) := by decide +kernel
theorem dX0_bind_85 : decode cX0_bind 85 = .ok (.getfield 24, 3) := by decide +kernel
theorem dX0_bind_88 : decode cX0_bind 88 = .ok (.iload 5, 2) := by decide +kernel
theorem dX0_bind_90 : decode cX0_bind 90 = .ok (.iaload, 1) := by decide +kernel
theorem dX0_bind_91 : decode cX0_bind 91 = .ok (.if_icmp .ge 14, 3) := by decide +kernel
theorem dX0_bind_94 : decode cX0_bind 94 = .ok (.aload_n 0, 1) := by decide +kernel
theorem dX0_bind_95 : decode cX0_bind 95 = .ok (.getfield 24, 3) := by decide +kernel
theorem dX0_bind_98 : decode cX0_bind 98 = .ok (.iload 5, 2) := by decide +kernel
theorem dX0_bind_100 : decode cX0_bind 100 = .ok (.iload 4, 2) := by decide +kernel
theorem dX0_bind_102 : decode cX0_bind 102 = .ok (.iconst 1, 1) := by decide +kernel
theorem dX0_bind_103 : decode cX0_bind 103 = .ok (.iadd, 1) := by decide +kernel
theorem dX0_bind_104 : decode cX0_bind 104 = .ok (.iastore, 1) := by decide +kernel
theorem dX0_bind_105 : decode cX0_bind 105 = .ok (.iinc 3 1, 3) := by decide +kernel
theorem dX0_bind_108 : decode cX0_bind 108 = .ok (.goto (-72), 3) := by decide +kernel
theorem dX0_bind_111 : decode cX0_bind 111 = .ok (.return_, 1) := by decide +kernel
theorem dX0_ancestorsOf_0 : decode cX0_ancestorsOf 0 = .ok (.iconst 0, 1) := by decide +kernel
theorem dX0_ancestorsOf_1 : decode cX0_ancestorsOf 1 = .ok (.istore_n 2, 1) := by decide +kernel
theorem dX0_ancestorsOf_2 : decode cX0_ancestorsOf 2 = .ok (.iconst 0, 1) := by decide +kernel
theorem dX0_ancestorsOf_3 : decode cX0_ancestorsOf 3 = .ok (.istore_n 3, 1) := by decide +kernel
theorem dX0_ancestorsOf_4 : decode cX0_ancestorsOf 4 = .ok (.iload_n 3, 1) := by decide +kernel
theorem dX0_ancestorsOf_5 : decode cX0_ancestorsOf 5 = .ok (.bipush 8, 2) := by decide +kernel
theorem dX0_ancestorsOf_7 : decode cX0_ancestorsOf 7 = .ok (.if_icmp .ge 30, 3) := by decide +kernel
theorem dX0_ancestorsOf_10 : decode cX0_ancestorsOf 10 = .ok (.aload_n 0, 1) := by decide +kernel
theorem dX0_ancestorsOf_11 : decode cX0_ancestorsOf 11 = .ok (.getfield 24, 3) := by decide +kernel
theorem dX0_ancestorsOf_14 : decode cX0_ancestorsOf 14 = .ok (.iload_n 1, 1) := by decide +kernel
theorem dX0_ancestorsOf_15 : decode cX0_ancestorsOf 15 = .ok (.bipush 8, 2) := by decide +kernel
theorem dX0_ancestorsOf_17 : decode cX0_ancestorsOf 17 = .ok (.imul, 1) := by decide +kernel
theorem dX0_ancestorsOf_18 : decode cX0_ancestorsOf 18 = .ok (.iload_n 3, 1) := by decide +kernel
theorem dX0_ancestorsOf_19 : decode cX0_ancestorsOf 19 = .ok (.iadd, 1) := by decide +kernel
theorem dX0_ancestorsOf_20 : decode cX0_ancestorsOf 20 = .ok (.iaload, 1) := by decide +kernel
theorem dX0_ancestorsOf_21 : decode cX0_ancestorsOf 21 = .ok (.iconst (-1), 1) := by decide +kernel
theorem dX0_ancestorsOf_22 : decode cX0_ancestorsOf 22 = .ok (.if_icmp .eq 9, 3) := by decide +kernel
theorem dX0_ancestorsOf_25 : decode cX0_ancestorsOf 25 = .ok (.iload_n 2, 1) := by decide +kernel
theorem dX0_ancestorsOf_26 : decode cX0_ancestorsOf 26 = .ok (.iconst 1, 1) := by decide +kernel
theorem dX0_ancestorsOf_27 : decode cX0_ancestorsOf 27 = .ok (.iload_n 3, 1) := by decide +kernel
theorem dX0_ancestorsOf_28 : decode cX0_ancestorsOf 28 = .ok (.ishl, 1) := by decide +kernel
theorem dX0_ancestorsOf_29 : decode cX0_ancestorsOf 29 = .ok (.ior, 1) := by decide +kernel
theorem dX0_ancestorsOf_30 : decode cX0_ancestorsOf 30 = .ok (.istore_n 2, 1) := by decide +kernel
theorem dX0_ancestorsOf_31 : decode cX0_ancestorsOf 31 = .ok (.iinc 3 1, 3) := by decide +kernel
theorem dX0_ancestorsOf_34 : decode cX0_ancestorsOf 34 = .ok (.goto (-30), 3) := by decide +kernel
theorem dX0_ancestorsOf_37 : decode cX0_ancestorsOf 37 = .ok (.iload_n 2, 1) := by decide +kernel
theorem dX0_ancestorsOf_38 : decode cX0_ancestorsOf 38 = .ok (.ireturn, 1) := by decide +kernel
theorem dX0_fewestSteps_0 : decode cX0_fewestSteps 0 = .ok (.iconst (-1), 1) := by decide +kernel
theorem dX0_fewestSteps_1 : decode cX0_fewestSteps 1 = .ok (.istore_n 3, 1) := by decide +kernel
theorem dX0_fewestSteps_2 : decode cX0_fewestSteps 2 = .ok (.iconst 0, 1) := by decide +kernel
theorem dX0_fewestSteps_3 : decode cX0_fewestSteps 3 = .ok (.istore 4, 2) := by decide +kernel
theorem dX0_fewestSteps_5 : decode cX0_fewestSteps 5 = .ok (.iload 4, 2) := by decide +kernel
theorem dX0_fewestSteps_7 : decode cX0_fewestSteps 7 = .ok (.bipush 8, 2) := by decide +kernel
theorem dX0_fewestSteps_9 : decode cX0_fewestSteps 9 = .ok (.if_icmp .ge 69, 3) := by decide +kernel
theorem dX0_fewestSteps_12 : decode cX0_fewestSteps 12 = .ok (.aload_n 0, 1) := by decide +kernel
theorem dX0_fewestSteps_13 : decode cX0_fewestSteps 13 = .ok (.getfield 24, 3) := by decide +kernel
theorem dX0_fewestSteps_16 : decode cX0_fewestSteps 16 = .ok (.iload_n 1, 1) := by decide +kernel
theorem dX0_fewestSteps_17 : decode cX0_fewestSteps 17 = .ok (.bipush 8, 2) := by decide +kernel
theorem dX0_fewestSteps_19 : decode cX0_fewestSteps 19 = .ok (.imul, 1) := by decide +kernel
theorem dX0_fewestSteps_20 : decode cX0_fewestSteps 20 = .ok (.iload 4, 2) := by decide +kernel
theorem dX0_fewestSteps_22 : decode cX0_fewestSteps 22 = .ok (.iadd, 1) := by decide +kernel
theorem dX0_fewestSteps_23 : decode cX0_fewestSteps 23 = .ok (.iaload, 1) := by decide +kernel
theorem dX0_fewestSteps_24 : decode cX0_fewestSteps 24 = .ok (.istore 5, 2) := by decide +kernel
theorem dX0_fewestSteps_26 : decode cX0_fewestSteps 26 = .ok (.aload_n 0, 1) := by decide +kernel
theorem dX0_fewestSteps_27 : decode cX0_fewestSteps 27 = .ok (.getfield 24, 3) := by decide +kernel
theorem dX0_fewestSteps_30 : decode cX0_fewestSteps 30 = .ok (.iload_n 2, 1) := by decide +kernel
theorem dX0_fewestSteps_31 : decode cX0_fewestSteps 31 = .ok (.bipush 8, 2) := by decide +kernel
theorem dX0_fewestSteps_33 : decode cX0_fewestSteps 33 = .ok (.imul, 1) := by decide +kernel
theorem dX0_fewestSteps_34 : decode cX0_fewestSteps 34 = .ok (.iload 4, 2) := by decide +kernel
theorem dX0_fewestSteps_36 : decode cX0_fewestSteps 36 = .ok (.iadd, 1) := by decide +kernel
theorem dX0_fewestSteps_37 : decode cX0_fewestSteps 37 = .ok (.iaload, 1) := by decide +kernel
theorem dX0_fewestSteps_38 : decode cX0_fewestSteps 38 = .ok (.istore 6, 2) := by decide +kernel
theorem dX0_fewestSteps_40 : decode cX0_fewestSteps 40 = .ok (.iload 5, 2) := by decide +kernel
theorem dX0_fewestSteps_42 : decode cX0_fewestSteps 42 = .ok (.iconst (-1), 1) := by decide +kernel
theorem dX0_fewestSteps_43 : decode cX0_fewestSteps 43 = .ok (.if_icmp .eq 29, 3) := by decide +kernel
theorem dX0_fewestSteps_46 : decode cX0_fewestSteps 46 = .ok (.iload 6, 2) := by decide +kernel
theorem dX0_fewestSteps_48 : decode cX0_fewestSteps 48 = .ok (.iconst (-1), 1) := by decide +kernel
theorem dX0_fewestSteps_49 : decode cX0_fewestSteps 49 = .ok (.if_icmp .eq 23, 3) := by decide +kernel
theorem dX0_fewestSteps_52 : decode cX0_fewestSteps 52 = .ok (.iload_n 3, 1) := by decide +kernel
theorem dX0_fewestSteps_53 : decode cX0_fewestSteps 53 = .ok (.iconst (-1), 1) := by decide +kernel
theorem dX0_fewestSteps_54 : decode cX0_fewestSteps 54 = .ok (.if_icmp .eq 12, 3) := by decide +kernel
theorem dX0_fewestSteps_57 : decode cX0_fewestSteps 57 = .ok (.iload 5, 2) := by decide +kernel
theorem dX0_fewestSteps_59 : decode cX0_fewestSteps 59 = .ok (.iload 6, 2) := by decide +kernel
theorem dX0_fewestSteps_61 : decode cX0_fewestSteps 61 = .ok (.iadd, 1) := by decide +kernel
theorem dX0_fewestSteps_62 : decode cX0_fewestSteps 62 = .ok (.iload_n 3, 1) := by decide +kernel
theorem dX0_fewestSteps_63 : decode cX0_fewestSteps 63 = .ok (.if_icmp .ge 9, 3) := by decide +kernel
theorem dX0_fewestSteps_66 : decode cX0_fewestSteps 66 = .ok (.iload 5, 2) := by decide +kernel
theorem dX0_fewestSteps_68 : decode cX0_fewestSteps 68 = .ok (.iload 6, 2) := by decide +kernel
theorem dX0_fewestSteps_70 : decode cX0_fewestSteps 70 = .ok (.iadd, 1) := by decide +kernel
theorem dX0_fewestSteps_71 : decode cX0_fewestSteps 71 = .ok (.istore_n 3, 1) := by decide +kernel
theorem dX0_fewestSteps_72 : decode cX0_fewestSteps 72 = .ok (.iinc 4 1, 3) := by decide +kernel
theorem dX0_fewestSteps_75 : decode cX0_fewestSteps 75 = .ok (.goto (-70), 3) := by decide +kernel
theorem dX0_fewestSteps_78 : decode cX0_fewestSteps 78 = .ok (.iload_n 3, 1) := by decide +kernel
theorem dX0_fewestSteps_79 : decode cX0_fewestSteps 79 = .ok (.ireturn, 1) := by decide +kernel
theorem dX0_degreeOf_0 : decode cX0_degreeOf 0 = .ok (.aload_n 0, 1) := by decide +kernel
theorem dX0_degreeOf_1 : decode cX0_degreeOf 1 = .ok (.getfield 27, 3) := by decide +kernel
theorem dX0_degreeOf_4 : decode cX0_degreeOf 4 = .ok (.iload_n 1, 1) := by decide +kernel
theorem dX0_degreeOf_5 : decode cX0_degreeOf 5 = .ok (.bipush 8, 2) := by decide +kernel
theorem dX0_degreeOf_7 : decode cX0_degreeOf 7 = .ok (.imul, 1) := by decide +kernel
theorem dX0_degreeOf_8 : decode cX0_degreeOf 8 = .ok (.iload_n 2, 1) := by decide +kernel
theorem dX0_degreeOf_9 : decode cX0_degreeOf 9 = .ok (.iadd, 1) := by decide +kernel
theorem dX0_degreeOf_10 : decode cX0_degreeOf 10 = .ok (.iaload, 1) := by decide +kernel
theorem dX0_degreeOf_11 : decode cX0_degreeOf 11 = .ok (.ireturn, 1) := by decide +kernel
theorem dX0_isWithin_0 : decode cX0_isWithin 0 = .ok (.aload_n 0, 1) := by decide +kernel
theorem dX0_isWithin_1 : decode cX0_isWithin 1 = .ok (.getfield 27, 3) := by decide +kernel
theorem dX0_isWithin_4 : decode cX0_isWithin 4 = .ok (.iload_n 1, 1) := by decide +kernel
theorem dX0_isWithin_5 : decode cX0_isWithin 5 = .ok (.bipush 8, 2) := by decide +kernel
theorem dX0_isWithin_7 : decode cX0_isWithin 7 = .ok (.imul, 1) := by decide +kernel
theorem dX0_isWithin_8 : decode cX0_isWithin 8 = .ok (.iload_n 2, 1) := by decide +kernel
theorem dX0_isWithin_9 : decode cX0_isWithin 9 = .ok (.iadd, 1) := by decide +kernel
theorem dX0_isWithin_10 : decode cX0_isWithin 10 = .ok (.iaload, 1) := by decide +kernel
theorem dX0_isWithin_11 : decode cX0_isWithin 11 = .ok (.istore 4, 2) := by decide +kernel
theorem dX0_isWithin_13 : decode cX0_isWithin 13 = .ok (.iload 4, 2) := by decide +kernel
theorem dX0_isWithin_15 : decode cX0_isWithin 15 = .ok (.iconst (-1), 1) := by decide +kernel
theorem dX0_isWithin_16 : decode cX0_isWithin 16 = .ok (.if_icmp .eq 13, 3) := by decide +kernel
theorem dX0_isWithin_19 : decode cX0_isWithin 19 = .ok (.iload 4, 2) := by decide +kernel
theorem dX0_isWithin_21 : decode cX0_isWithin 21 = .ok (.iload_n 3, 1) := by decide +kernel
theorem dX0_isWithin_22 : decode cX0_isWithin 22 = .ok (.if_icmp .gt 7, 3) := by decide +kernel
theorem dX0_isWithin_25 : decode cX0_isWithin 25 = .ok (.iconst 1, 1) := by decide +kernel
theorem dX0_isWithin_26 : decode cX0_isWithin 26 = .ok (.goto 4, 3) := by decide +kernel
theorem dX0_isWithin_29 : decode cX0_isWithin 29 = .ok (.iconst 0, 1) := by decide +kernel
theorem dX0_isWithin_30 : decode cX0_isWithin 30 = .ok (.ireturn, 1) := by decide +kernel
theorem dX0_knownBy_0 : decode cX0_knownBy 0 = .ok (.iconst 0, 1) := by decide +kernel
theorem dX0_knownBy_1 : decode cX0_knownBy 1 = .ok (.istore_n 2, 1) := by decide +kernel
theorem dX0_knownBy_2 : decode cX0_knownBy 2 = .ok (.iconst 0, 1) := by decide +kernel
theorem dX0_knownBy_3 : decode cX0_knownBy 3 = .ok (.istore_n 3, 1) := by decide +kernel
theorem dX0_knownBy_4 : decode cX0_knownBy 4 = .ok (.iload_n 3, 1) := by decide +kernel
theorem dX0_knownBy_5 : decode cX0_knownBy 5 = .ok (.bipush 8, 2) := by decide +kernel
theorem dX0_knownBy_7 : decode cX0_knownBy 7 = .ok (.if_icmp .ge 24, 3) := by decide +kernel
theorem dX0_knownBy_10 : decode cX0_knownBy 10 = .ok (.iload_n 2, 1) := by decide +kernel
theorem dX0_knownBy_11 : decode cX0_knownBy 11 = .ok (.aload_n 0, 1) := by decide +kernel
theorem dX0_knownBy_12 : decode cX0_knownBy 12 = .ok (.getfield 21, 3) := by decide +kernel
theorem dX0_knownBy_15 : decode cX0_knownBy 15 = .ok (.iload_n 3, 1) := by decide +kernel
theorem dX0_knownBy_16 : decode cX0_knownBy 16 = .ok (.iaload, 1) := by decide +kernel
theorem dX0_knownBy_17 : decode cX0_knownBy 17 = .ok (.iload_n 1, 1) := by decide +kernel
theorem dX0_knownBy_18 : decode cX0_knownBy 18 = .ok (.ishr, 1) := by decide +kernel
theorem dX0_knownBy_19 : decode cX0_knownBy 19 = .ok (.iconst 1, 1) := by decide +kernel
theorem dX0_knownBy_20 : decode cX0_knownBy 20 = .ok (.iand, 1) := by decide +kernel
theorem dX0_knownBy_21 : decode cX0_knownBy 21 = .ok (.iload_n 3, 1) := by decide +kernel
theorem dX0_knownBy_22 : decode cX0_knownBy 22 = .ok (.ishl, 1) := by decide +kernel
theorem dX0_knownBy_23 : decode cX0_knownBy 23 = .ok (.ior, 1) := by decide +kernel
theorem dX0_knownBy_24 : decode cX0_knownBy 24 = .ok (.istore_n 2, 1) := by decide +kernel
theorem dX0_knownBy_25 : decode cX0_knownBy 25 = .ok (.iinc 3 1, 3) := by decide +kernel
theorem dX0_knownBy_28 : decode cX0_knownBy 28 = .ok (.goto (-24), 3) := by decide +kernel
theorem dX0_knownBy_31 : decode cX0_knownBy 31 = .ok (.iload_n 2, 1) := by decide +kernel
theorem dX0_knownBy_32 : decode cX0_knownBy 32 = .ok (.ireturn, 1) := by decide +kernel
theorem dX1_init_0 : decode cX1_init 0 = .ok (.aload_n 0, 1) := by decide +kernel
theorem dX1_init_1 : decode cX1_init 1 = .ok (.invokespecial 1, 3) := by decide +kernel
theorem dX1_init_4 : decode cX1_init 4 = .ok (.aload_n 0, 1) := by decide +kernel
theorem dX1_init_5 : decode cX1_init 5 = .ok (.sipush 300, 3) := by decide +kernel
theorem dX1_init_8 : decode cX1_init 8 = .ok (.newarray .int, 2) := by decide +kernel
theorem dX1_init_10 : decode cX1_init 10 = .ok (.putfield 9, 3) := by decide +kernel
theorem dX1_init_13 : decode cX1_init 13 = .ok (.aload_n 0, 1) := by decide +kernel
theorem dX1_init_14 : decode cX1_init 14 = .ok (.bipush 40, 2) := by decide +kernel
theorem dX1_init_16 : decode cX1_init 16 = .ok (.newarray .int, 2) := by decide +kernel
theorem dX1_init_18 : decode cX1_init 18 = .ok (.putfield 13, 3) := by decide +kernel
theorem dX1_init_21 : decode cX1_init 21 = .ok (.return_, 1) := by decide +kernel
theorem dX1_clear_0 : decode cX1_clear 0 = .ok (.aload_n 0, 1) := by decide +kernel
theorem dX1_clear_1 : decode cX1_clear 1 = .ok (.iconst 0, 1) := by decide +kernel
theorem dX1_clear_2 : decode cX1_clear 2 = .ok (.putfield 16, 3) := by decide +kernel
theorem dX1_clear_5 : decode cX1_clear 5 = .ok (.aload_n 0, 1) := by decide +kernel
theorem dX1_clear_6 : decode cX1_clear 6 = .ok (.iconst 0, 1) := by decide +kernel
theorem dX1_clear_7 : decode cX1_clear 7 = .ok (.putfield 20, 3) := by decide +kernel
theorem dX1_clear_10 : decode cX1_clear 10 = .ok (.return_, 1) := by decide +kernel
theorem dX1_add_0 : decode cX1_add 0 = .ok (.aload_n 0, 1) := by decide +kernel
theorem dX1_add_1 : decode cX1_add 1 = .ok (.getfield 16, 3) := by decide +kernel
theorem dX1_add_4 : decode cX1_add 4 = .ok (.sipush 300, 3) := by decide +kernel
theorem dX1_add_7 : decode cX1_add 7 = .ok (.if_icmp .ge 23, 3) := by decide +kernel
theorem dX1_add_10 : decode cX1_add 10 = .ok (.aload_n 0, 1) := by decide +kernel
theorem dX1_add_11 : decode cX1_add 11 = .ok (.getfield 9, 3) := by decide +kernel
theorem dX1_add_14 : decode cX1_add 14 = .ok (.aload_n 0, 1) := by decide +kernel
theorem dX1_add_15 : decode cX1_add 15 = .ok (.getfield 16, 3) := by decide +kernel
theorem dX1_add_18 : decode cX1_add 18 = .ok (.iload_n 1, 1) := by decide +kernel
theorem dX1_add_19 : decode cX1_add 19 = .ok (.iastore, 1) := by decide +kernel
theorem dX1_add_20 : decode cX1_add 20 = .ok (.aload_n 0, 1) := by decide +kernel
theorem dX1_add_21 : decode cX1_add 21 = .ok (.dup, 1) := by decide +kernel
theorem dX1_add_22 : decode cX1_add 22 = .ok (.getfield 16, 3) := by decide +kernel
theorem dX1_add_25 : decode cX1_add 25 = .ok (.iconst 1, 1) := by decide +kernel
theorem dX1_add_26 : decode cX1_add 26 = .ok (.iadd, 1) := by decide +kernel
theorem dX1_add_27 : decode cX1_add 27 = .ok (.putfield 16, 3) := by decide +kernel
theorem dX1_add_30 : decode cX1_add 30 = .ok (.return_, 1) := by decide +kernel
theorem dX1_isTold_0 : decode cX1_isTold 0 = .ok (.aload_n 0, 1) := by decide +kernel
theorem dX1_isTold_1 : decode cX1_isTold 1 = .ok (.getfield 16, 3) := by decide +kernel
theorem dX1_isTold_4 : decode cX1_isTold 4 = .ok (.ifCond .le 7, 3) := by decide +kernel
theorem dX1_isTold_7 : decode cX1_isTold 7 = .ok (.iconst 1, 1) := by decide +kernel
theorem dX1_isTold_8 : decode cX1_isTold 8 = .ok (.goto 4, 3) := by decide +kernel
theorem dX1_isTold_11 : decode cX1_isTold 11 = .ok (.iconst 0, 1) := by decide +kernel
theorem dX1_isTold_12 : decode cX1_isTold 12 = .ok (.ireturn, 1) := by decide +kernel
theorem dX1_valueFor_0 : decode cX1_valueFor 0 = .ok (.iconst 0, 1) := by decide +kernel
theorem dX1_valueFor_1 : decode cX1_valueFor 1 = .ok (.istore 5, 2) := by decide +kernel
theorem dX1_valueFor_3 : decode cX1_valueFor 3 = .ok (.iconst 0, 1) := by decide +kernel
theorem dX1_valueFor_4 : decode cX1_valueFor 4 = .ok (.istore 6, 2) := by decide +kernel
theorem dX1_valueFor_6 : decode cX1_valueFor 6 = .ok (.iload 6, 2) := by decide +kernel
theorem dX1_valueFor_8 : decode cX1_valueFor 8 = .ok (.aload_n 0, 1) := by decide +kernel
theorem dX1_valueFor_9 : decode cX1_valueFor 9 = .ok (.getfield 16, 3) := by decide +kernel
theorem dX1_valueFor_12 : decode cX1_valueFor 12 = .ok (.if_icmp .ge 138, 3) := by decide +kernel
theorem dX1_valueFor_15 : decode cX1_valueFor 15 = .ok (.aload_n 0, 1) := by decide +kernel
theorem dX1_valueFor_16 : decode cX1_valueFor 16 = .ok (.getfield 9, 3) := by decide +kernel
theorem dX1_valueFor_19 : decode cX1_valueFor 19 = .ok (.iload 6, 2) := by decide +kernel
theorem dX1_valueFor_21 : decode cX1_valueFor 21 = .ok (.iaload, 1) := by decide +kernel
theorem dX1_valueFor_22 : decode cX1_valueFor 22 = .ok (.istore 7, 2) := by decide +kernel
theorem dX1_valueFor_24 : decode cX1_valueFor 24 = .ok (.iload 7, 2) := by decide +kernel
theorem dX1_valueFor_26 : decode cX1_valueFor 26 = .ok (.bipush (-5), 2) := by decide +kernel
theorem dX1_valueFor_28 : decode cX1_valueFor 28 = .ok (.if_icmp .lt 33, 3) := by decide +kernel
theorem dX1_valueFor_31 : decode cX1_valueFor 31 = .ok (.iload 5, 2) := by decide +kernel
theorem dX1_valueFor_33 : decode cX1_valueFor 33 = .ok (.bipush 40, 2) := by decide +kernel
theorem dX1_valueFor_35 : decode cX1_valueFor 35 = .ok (.if_icmp .ge 26, 3) := by decide +kernel
theorem dX1_valueFor_38 : decode cX1_valueFor 38 = .ok (.aload_n 0, 1) := by decide +kernel
theorem dX1_valueFor_39 : decode cX1_valueFor 39 = .ok (.getfield 13, 3) := by decide +kernel
theorem dX1_valueFor_42 : decode cX1_valueFor 42 = .ok (.iload 5, 2) := by decide +kernel
theorem dX1_valueFor_44 : decode cX1_valueFor 44 = .ok (.iload 7, 2) := by decide +kernel
theorem dX1_valueFor_46 : decode cX1_valueFor 46 = .ok (.iload_n 1, 1) := by decide +kernel
theorem dX1_valueFor_47 : decode cX1_valueFor 47 = .ok (.iload_n 2, 1) := by decide +kernel
theorem dX1_valueFor_48 : decode cX1_valueFor 48 = .ok (.iload_n 3, 1) := by decide +kernel
theorem dX1_valueFor_49 : decode cX1_valueFor 49 = .ok (.iload 4, 2) := by decide +kernel
theorem dX1_valueFor_51 : decode cX1_valueFor 51 = .ok (.invokestatic 23, 3) := by decide +kernel
theorem dX1_valueFor_54 : decode cX1_valueFor 54 = .ok (.iastore, 1) := by decide +kernel
theorem dX1_valueFor_55 : decode cX1_valueFor 55 = .ok (.iinc 5 1, 3) := by decide +kernel
theorem dX1_valueFor_58 : decode cX1_valueFor 58 = .ok (.goto 86, 3) := by decide +kernel
theorem dX1_valueFor_61 : decode cX1_valueFor 61 = .ok (.iload 7, 2) := by decide +kernel
theorem dX1_valueFor_63 : decode cX1_valueFor 63 = .ok (.bipush (-6), 2) := by decide +kernel
theorem dX1_valueFor_65 : decode cX1_valueFor 65 = .ok (.if_icmp .ne 40, 3) := by decide +kernel
theorem dX1_valueFor_68 : decode cX1_valueFor 68 = .ok (.iload 5, 2) := by decide +kernel
theorem dX1_valueFor_70 : decode cX1_valueFor 70 = .ok (.ifCond .le 35, 3) := by decide +kernel
theorem dX1_valueFor_73 : decode cX1_valueFor 73 = .ok (.aload_n 0, 1) := by decide +kernel
theorem dX1_valueFor_74 : decode cX1_valueFor 74 = .ok (.getfield 13, 3) := by decide +kernel
theorem dX1_valueFor_77 : decode cX1_valueFor 77 = .ok (.iload 5, 2) := by decide +kernel
theorem dX1_valueFor_79 : decode cX1_valueFor 79 = .ok (.iconst 1, 1) := by decide +kernel
theorem dX1_valueFor_80 : decode cX1_valueFor 80 = .ok (.isub, 1) := by decide +kernel
theorem dX1_valueFor_81 : decode cX1_valueFor 81 = .ok (.aload_n 0, 1) := by decide +kernel
theorem dX1_valueFor_82 : decode cX1_valueFor 82 = .ok (.getfield 13, 3) := by decide +kernel
theorem dX1_valueFor_85 : decode cX1_valueFor 85 = .ok (.iload 5, 2) := by decide +kernel
theorem dX1_valueFor_87 : decode cX1_valueFor 87 = .ok (.iconst 1, 1) := by decide +kernel
theorem dX1_valueFor_88 : decode cX1_valueFor 88 = .ok (.isub, 1) := by decide +kernel
theorem dX1_valueFor_89 : decode cX1_valueFor 89 = .ok (.iaload, 1) := by decide +kernel
theorem dX1_valueFor_90 : decode cX1_valueFor 90 = .ok (.ifCond .ne 7, 3) := by decide +kernel
theorem dX1_valueFor_93 : decode cX1_valueFor 93 = .ok (.iconst 1, 1) := by decide +kernel
theorem dX1_valueFor_94 : decode cX1_valueFor 94 = .ok (.goto 4, 3) := by decide +kernel
theorem dX1_valueFor_97 : decode cX1_valueFor 97 = .ok (.iconst 0, 1) := by decide +kernel
theorem dX1_valueFor_98 : decode cX1_valueFor 98 = .ok (.invokestatic 27, 3) := by decide +kernel
theorem dX1_valueFor_101 : decode cX1_valueFor 101 = .ok (.iastore, 1) := by decide +kernel
theorem dX1_valueFor_102 : decode cX1_valueFor 102 = .ok (.goto 42, 3) := by decide +kernel
theorem dX1_valueFor_105 : decode cX1_valueFor 105 = .ok (.iload 5, 2) := by decide +kernel
theorem dX1_valueFor_107 : decode cX1_valueFor 107 = .ok (.iconst 1, 1) := by decide +kernel
theorem dX1_valueFor_108 : decode cX1_valueFor 108 = .ok (.if_icmp .le 36, 3) := by decide +kernel
theorem dX1_valueFor_111 : decode cX1_valueFor 111 = .ok (.iinc 5 (-1), 3) := by decide +kernel
theorem dX1_valueFor_114 : decode cX1_valueFor 114 = .ok (.aload_n 0, 1) := by decide +kernel
theorem dX1_valueFor_115 : decode cX1_valueFor 115 = .ok (.getfield 13, 3) := by decide +kernel
theorem dX1_valueFor_118 : decode cX1_valueFor 118 = .ok (.iload 5, 2) := by decide +kernel
theorem dX1_valueFor_120 : decode cX1_valueFor 120 = .ok (.iconst 1, 1) := by decide +kernel
theorem dX1_valueFor_121 : decode cX1_valueFor 121 = .ok (.isub, 1) := by decide +kernel
theorem dX1_valueFor_122 : decode cX1_valueFor 122 = .ok (.iload 7, 2) := by decide +kernel
theorem dX1_valueFor_124 : decode cX1_valueFor 124 = .ok (.aload_n 0, 1) := by decide +kernel
theorem dX1_valueFor_125 : decode cX1_valueFor 125 = .ok (.getfield 13, 3) := by decide +kernel
theorem dX1_valueFor_128 : decode cX1_valueFor 128 = .ok (.iload 5, 2) := by decide +kernel
theorem dX1_valueFor_130 : decode cX1_valueFor 130 = .ok (.iconst 1, 1) := by decide +kernel
theorem dX1_valueFor_131 : decode cX1_valueFor 131 = .ok (.isub, 1) := by decide +kernel
theorem dX1_valueFor_132 : decode cX1_valueFor 132 = .ok (.iaload, 1) := by decide +kernel
theorem dX1_valueFor_133 : decode cX1_valueFor 133 = .ok (.aload_n 0, 1) := by decide +kernel
theorem dX1_valueFor_134 : decode cX1_valueFor 134 = .ok (.getfield 13, 3) := by decide +kernel
theorem dX1_valueFor_137 : decode cX1_valueFor 137 = .ok (.iload 5, 2) := by decide +kernel
theorem dX1_valueFor_139 : decode cX1_valueFor 139 = .ok (.iaload, 1) := by decide +kernel
theorem dX1_valueFor_140 : decode cX1_valueFor 140 = .ok (.invokestatic 31, 3) := by decide +kernel
theorem dX1_valueFor_143 : decode cX1_valueFor 143 = .ok (.iastore, 1) := by decide +kernel
theorem dX1_valueFor_144 : decode cX1_valueFor 144 = .ok (.iinc 6 1, 3) := by decide +kernel
theorem dX1_valueFor_147 : decode cX1_valueFor 147 = .ok (.goto (-141), 3) := by decide +kernel
theorem dX1_valueFor_150 : decode cX1_valueFor 150 = .ok (.iload 5, 2) := by decide +kernel
theorem dX1_valueFor_152 : decode cX1_valueFor 152 = .ok (.ifCond .le 15, 3) := by decide +kernel
theorem dX1_valueFor_155 : decode cX1_valueFor 155 = .ok (.aload_n 0, 1) := by decide +kernel
theorem dX1_valueFor_156 : decode cX1_valueFor 156 = .ok (.getfield 13, 3) := by decide +kernel
theorem dX1_valueFor_159 : decode cX1_valueFor 159 = .ok (.iload 5, 2) := by decide +kernel
theorem dX1_valueFor_161 : decode cX1_valueFor 161 = .ok (.iconst 1, 1) := by decide +kernel
theorem dX1_valueFor_162 : decode cX1_valueFor 162 = .ok (.isub, 1) := by decide +kernel
theorem dX1_valueFor_163 : decode cX1_valueFor 163 = .ok (.iaload, 1) := by decide +kernel
theorem dX1_valueFor_164 : decode cX1_valueFor 164 = .ok (.goto 4, 3) := by decide +kernel
theorem dX1_valueFor_167 : decode cX1_valueFor 167 = .ok (.iconst 0, 1) := by decide +kernel
theorem dX1_valueFor_168 : decode cX1_valueFor 168 = .ok (.ireturn, 1) := by decide +kernel
theorem dX1_leaf_0 : decode cX1_leaf 0 = .ok (.iload_n 0, 1) := by decide +kernel
theorem dX1_leaf_1 : decode cX1_leaf 1 = .ok (.tableswitch 40 (-5) (-2) #[37, 35, 33, 31], 31) := by decide +kernel
theorem dX1_leaf_32 : decode cX1_leaf 32 = .ok (.iload_n 1, 1) := by decide +kernel
theorem dX1_leaf_33 : decode cX1_leaf 33 = .ok (.ireturn, 1) := by decide +kernel
theorem dX1_leaf_34 : decode cX1_leaf 34 = .ok (.iload_n 2, 1) := by decide +kernel
theorem dX1_leaf_35 : decode cX1_leaf 35 = .ok (.ireturn, 1) := by decide +kernel
theorem dX1_leaf_36 : decode cX1_leaf 36 = .ok (.iload_n 3, 1) := by decide +kernel
theorem dX1_leaf_37 : decode cX1_leaf 37 = .ok (.ireturn, 1) := by decide +kernel
theorem dX1_leaf_38 : decode cX1_leaf 38 = .ok (.iload 4, 2) := by decide +kernel
theorem dX1_leaf_40 : decode cX1_leaf 40 = .ok (.ireturn, 1) := by decide +kernel
theorem dX1_leaf_41 : decode cX1_leaf 41 = .ok (.iload_n 0, 1) := by decide +kernel
theorem dX1_leaf_42 : decode cX1_leaf 42 = .ok (.ireturn, 1) := by decide +kernel
theorem dX1_joined_0 : decode cX1_joined 0 = .ok (.iload_n 0, 1) := by decide +kernel
theorem dX1_joined_1 : decode cX1_joined 1 = .ok (.lookupswitch 203 #[(-62, 139), (-61, 153), (-60, 125), (-47, 179), (-45, 171), (-43, 167), (-42, 175), (-37, 191), (-8, 91), (-7, 108)], 91) := by decide +kernel
theorem dX1_joined_92 : decode cX1_joined 92 = .ok (.iload_n 1, 1) := by decide +kernel
theorem dX1_joined_93 : decode cX1_joined 93 = .ok (.ifCond .ne 7, 3) := by decide +kernel
theorem dX1_joined_96 : decode cX1_joined 96 = .ok (.iload_n 2, 1) := by decide +kernel
theorem dX1_joined_97 : decode cX1_joined 97 = .ok (.ifCond .eq 7, 3) := by decide +kernel
theorem dX1_joined_100 : decode cX1_joined 100 = .ok (.iconst 1, 1) := by decide +kernel
theorem dX1_joined_101 : decode cX1_joined 101 = .ok (.goto 4, 3) := by decide +kernel
theorem dX1_joined_104 : decode cX1_joined 104 = .ok (.iconst 0, 1) := by decide +kernel
theorem dX1_joined_105 : decode cX1_joined 105 = .ok (.invokestatic 27, 3) := by decide +kernel
theorem dX1_joined_108 : decode cX1_joined 108 = .ok (.ireturn, 1) := by decide +kernel
theorem dX1_joined_109 : decode cX1_joined 109 = .ok (.iload_n 1, 1) := by decide +kernel
theorem dX1_joined_110 : decode cX1_joined 110 = .ok (.ifCond .eq 11, 3) := by decide +kernel
theorem dX1_joined_113 : decode cX1_joined 113 = .ok (.iload_n 2, 1) := by decide +kernel
theorem dX1_joined_114 : decode cX1_joined 114 = .ok (.ifCond .eq 7, 3) := by decide +kernel
theorem dX1_joined_117 : decode cX1_joined 117 = .ok (.iconst 1, 1) := by decide +kernel
theorem dX1_joined_118 : decode cX1_joined 118 = .ok (.goto 4, 3) := by decide +kernel
theorem dX1_joined_121 : decode cX1_joined 121 = .ok (.iconst 0, 1) := by decide +kernel
theorem dX1_joined_122 : decode cX1_joined 122 = .ok (.invokestatic 27, 3) := by decide +kernel
theorem dX1_joined_125 : decode cX1_joined 125 = .ok (.ireturn, 1) := by decide +kernel
theorem dX1_joined_126 : decode cX1_joined 126 = .ok (.iload_n 1, 1) := by decide +kernel
theorem dX1_joined_127 : decode cX1_joined 127 = .ok (.iload_n 2, 1) := by decide +kernel
theorem dX1_joined_128 : decode cX1_joined 128 = .ok (.if_icmp .ge 7, 3) := by decide +kernel
theorem dX1_joined_131 : decode cX1_joined 131 = .ok (.iconst 1, 1) := by decide +kernel
theorem dX1_joined_132 : decode cX1_joined 132 = .ok (.goto 4, 3) := by decide +kernel
theorem dX1_joined_135 : decode cX1_joined 135 = .ok (.iconst 0, 1) := by decide +kernel
theorem dX1_joined_136 : decode cX1_joined 136 = .ok (.invokestatic 27, 3) := by decide +kernel
theorem dX1_joined_139 : decode cX1_joined 139 = .ok (.ireturn, 1) := by decide +kernel
theorem dX1_joined_140 : decode cX1_joined 140 = .ok (.iload_n 1, 1) := by decide +kernel
theorem dX1_joined_141 : decode cX1_joined 141 = .ok (.iload_n 2, 1) := by decide +kernel
theorem dX1_joined_142 : decode cX1_joined 142 = .ok (.if_icmp .le 7, 3) := by decide +kernel
theorem dX1_joined_145 : decode cX1_joined 145 = .ok (.iconst 1, 1) := by decide +kernel
theorem dX1_joined_146 : decode cX1_joined 146 = .ok (.goto 4, 3) := by decide +kernel
theorem dX1_joined_149 : decode cX1_joined 149 = .ok (.iconst 0, 1) := by decide +kernel
theorem dX1_joined_150 : decode cX1_joined 150 = .ok (.invokestatic 27, 3) := by decide +kernel
theorem dX1_joined_153 : decode cX1_joined 153 = .ok (.ireturn, 1) := by decide +kernel
theorem dX1_joined_154 : decode cX1_joined 154 = .ok (.iload_n 1, 1) := by decide +kernel
theorem dX1_joined_155 : decode cX1_joined 155 = .ok (.iload_n 2, 1) := by decide +kernel
theorem dX1_joined_156 : decode cX1_joined 156 = .ok (.if_icmp .ne 7, 3) := by decide +kernel
theorem dX1_joined_159 : decode cX1_joined 159 = .ok (.iconst 1, 1) := by decide +kernel
theorem dX1_joined_160 : decode cX1_joined 160 = .ok (.goto 4, 3) := by decide +kernel
theorem dX1_joined_163 : decode cX1_joined 163 = .ok (.iconst 0, 1) := by decide +kernel
theorem dX1_joined_164 : decode cX1_joined 164 = .ok (.invokestatic 27, 3) := by decide +kernel
theorem dX1_joined_167 : decode cX1_joined 167 = .ok (.ireturn, 1) := by decide +kernel
theorem dX1_joined_168 : decode cX1_joined 168 = .ok (.iload_n 1, 1) := by decide +kernel
theorem dX1_joined_169 : decode cX1_joined 169 = .ok (.iload_n 2, 1) := by decide +kernel
theorem dX1_joined_170 : decode cX1_joined 170 = .ok (.iadd, 1) := by decide +kernel
theorem dX1_joined_171 : decode cX1_joined 171 = .ok (.ireturn, 1) := by decide +kernel
theorem dX1_joined_172 : decode cX1_joined 172 = .ok (.iload_n 1, 1) := by decide +kernel
theorem dX1_joined_173 : decode cX1_joined 173 = .ok (.iload_n 2, 1) := by decide +kernel
theorem dX1_joined_174 : decode cX1_joined 174 = .ok (.isub, 1) := by decide +kernel
theorem dX1_joined_175 : decode cX1_joined 175 = .ok (.ireturn, 1) := by decide +kernel
theorem dX1_joined_176 : decode cX1_joined 176 = .ok (.iload_n 1, 1) := by decide +kernel
theorem dX1_joined_177 : decode cX1_joined 177 = .ok (.iload_n 2, 1) := by decide +kernel
theorem dX1_joined_178 : decode cX1_joined 178 = .ok (.imul, 1) := by decide +kernel
theorem dX1_joined_179 : decode cX1_joined 179 = .ok (.ireturn, 1) := by decide +kernel
theorem dX1_joined_180 : decode cX1_joined 180 = .ok (.iload_n 2, 1) := by decide +kernel
theorem dX1_joined_181 : decode cX1_joined 181 = .ok (.ifCond .ne 7, 3) := by decide +kernel
theorem dX1_joined_184 : decode cX1_joined 184 = .ok (.iconst 0, 1) := by decide +kernel
theorem dX1_joined_185 : decode cX1_joined 185 = .ok (.goto 6, 3) := by decide +kernel
theorem dX1_joined_188 : decode cX1_joined 188 = .ok (.iload_n 1, 1) := by decide +kernel
theorem dX1_joined_189 : decode cX1_joined 189 = .ok (.iload_n 2, 1) := by decide +kernel
theorem dX1_joined_190 : decode cX1_joined 190 = .ok (.idiv, 1) := by decide +kernel
theorem dX1_joined_191 : decode cX1_joined 191 = .ok (.ireturn, 1) := by decide +kernel
theorem dX1_joined_192 : decode cX1_joined 192 = .ok (.iload_n 2, 1) := by decide +kernel
theorem dX1_joined_193 : decode cX1_joined 193 = .ok (.ifCond .ne 7, 3) := by decide +kernel
theorem dX1_joined_196 : decode cX1_joined 196 = .ok (.iconst 0, 1) := by decide +kernel
theorem dX1_joined_197 : decode cX1_joined 197 = .ok (.goto 6, 3) := by decide +kernel
theorem dX1_joined_200 : decode cX1_joined 200 = .ok (.iload_n 1, 1) := by decide +kernel
theorem dX1_joined_201 : decode cX1_joined 201 = .ok (.iload_n 2, 1) := by decide +kernel
theorem dX1_joined_202 : decode cX1_joined 202 = .ok (.irem, 1) := by decide +kernel
theorem dX1_joined_203 : decode cX1_joined 203 = .ok (.ireturn, 1) := by decide +kernel
theorem dX1_joined_204 : decode cX1_joined 204 = .ok (.iconst 0, 1) := by decide +kernel
theorem dX1_joined_205 : decode cX1_joined 205 = .ok (.ireturn, 1) := by decide +kernel
theorem dX1_truth_0 : decode cX1_truth 0 = .ok (.iload_n 0, 1) := by decide +kernel
theorem dX1_truth_1 : decode cX1_truth 1 = .ok (.ifCond .eq 7, 3) := by decide +kernel
theorem dX1_truth_4 : decode cX1_truth 4 = .ok (.iconst 1, 1) := by decide +kernel
theorem dX1_truth_5 : decode cX1_truth 5 = .ok (.goto 4, 3) := by decide +kernel
theorem dX1_truth_8 : decode cX1_truth 8 = .ok (.iconst 0, 1) := by decide +kernel
theorem dX1_truth_9 : decode cX1_truth 9 = .ok (.ireturn, 1) := by decide +kernel
theorem dX2_init_0 : decode cX2_init 0 = .ok (.aload_n 0, 1) := by decide +kernel
theorem dX2_init_1 : decode cX2_init 1 = .ok (.invokespecial 3, 3) := by decide +kernel
theorem dX2_init_4 : decode cX2_init 4 = .ok (.aload_n 0, 1) := by decide +kernel
theorem dX2_init_5 : decode cX2_init 5 = .ok (.bipush 41, 2) := by decide +kernel
theorem dX2_init_7 : decode cX2_init 7 = .ok (.bipush 30, 2) := by decide +kernel
theorem dX2_init_9 : decode cX2_init 9 = .ok (.multianewarray 11 2, 4) := by decide +kernel
theorem dX2_init_13 : decode cX2_init 13 = .ok (.putfield 13, 3) := by decide +kernel
theorem dX2_init_16 : decode cX2_init 16 = .ok (.return_, 1) := by decide +kernel
theorem dX2_restart_0 : decode cX2_restart 0 = .ok (.aload_n 0, 1) := by decide +kernel
theorem dX2_restart_1 : decode cX2_restart 1 = .ok (.iconst 0, 1) := by decide +kernel
theorem dX2_restart_2 : decode cX2_restart 2 = .ok (.putfield 16, 3) := by decide +kernel
theorem dX2_restart_5 : decode cX2_restart 5 = .ok (.aload_n 0, 1) := by decide +kernel
theorem dX2_restart_6 : decode cX2_restart 6 = .ok (.iconst 0, 1) := by decide +kernel
theorem dX2_restart_7 : decode cX2_restart 7 = .ok (.putfield 20, 3) := by decide +kernel
theorem dX2_restart_10 : decode cX2_restart 10 = .ok (.aload_n 0, 1) := by decide +kernel
theorem dX2_restart_11 : decode cX2_restart 11 = .ok (.iconst 0, 1) := by decide +kernel
theorem dX2_restart_12 : decode cX2_restart 12 = .ok (.putfield 23, 3) := by decide +kernel
theorem dX2_restart_15 : decode cX2_restart 15 = .ok (.aload_n 1, 1) := by decide +kernel
theorem dX2_restart_16 : decode cX2_restart 16 = .ok (.getfield 26, 3) := by decide +kernel
theorem dX2_restart_19 : decode cX2_restart 19 = .ok (.iconst 0, 1) := by decide +kernel
theorem dX2_restart_20 : decode cX2_restart 20 = .ok (.aload_n 0, 1) := by decide +kernel
theorem dX2_restart_21 : decode cX2_restart 21 = .ok (.getfield 13, 3) := by decide +kernel
theorem dX2_restart_24 : decode cX2_restart 24 = .ok (.iconst 0, 1) := by decide +kernel
theorem dX2_restart_25 : decode cX2_restart 25 = .ok (.aaload, 1) := by decide +kernel
theorem dX2_restart_26 : decode cX2_restart 26 = .ok (.iconst 0, 1) := by decide +kernel
theorem dX2_restart_27 : decode cX2_restart 27 = .ok (.bipush 30, 2) := by decide +kernel
theorem dX2_restart_29 : decode cX2_restart 29 = .ok (.invokestatic 30, 3) := by decide +kernel
theorem dX2_restart_32 : decode cX2_restart 32 = .ok (.return_, 1) := by decide +kernel
theorem dX2_add_0 : decode cX2_add 0 = .ok (.aload_n 0, 1) := by decide +kernel
theorem dX2_add_1 : decode cX2_add 1 = .ok (.getfield 20, 3) := by decide +kernel
theorem dX2_add_4 : decode cX2_add 4 = .ok (.bipush 40, 2) := by decide +kernel
theorem dX2_add_6 : decode cX2_add 6 = .ok (.if_icmp .ge 16, 3) := by decide +kernel
theorem dX2_add_9 : decode cX2_add 9 = .ok (.aload_n 0, 1) := by decide +kernel
theorem dX2_add_10 : decode cX2_add 10 = .ok (.dup, 1) := by decide +kernel
theorem dX2_add_11 : decode cX2_add 11 = .ok (.getfield 20, 3) := by decide +kernel
theorem dX2_add_14 : decode cX2_add 14 = .ok (.iconst 1, 1) := by decide +kernel
theorem dX2_add_15 : decode cX2_add 15 = .ok (.iadd, 1) := by decide +kernel
theorem dX2_add_16 : decode cX2_add 16 = .ok (.putfield 20, 3) := by decide +kernel
theorem dX2_add_19 : decode cX2_add 19 = .ok (.goto 16, 3) := by decide +kernel
theorem dX2_add_22 : decode cX2_add 22 = .ok (.aload_n 0, 1) := by decide +kernel
theorem dX2_add_23 : decode cX2_add 23 = .ok (.aload_n 0, 1) := by decide +kernel
theorem dX2_add_24 : decode cX2_add 24 = .ok (.getfield 16, 3) := by decide +kernel
theorem dX2_add_27 : decode cX2_add 27 = .ok (.iconst 1, 1) := by decide +kernel
theorem dX2_add_28 : decode cX2_add 28 = .ok (.iadd, 1) := by decide +kernel
theorem dX2_add_29 : decode cX2_add 29 = .ok (.bipush 41, 2) := by decide +kernel
theorem dX2_add_31 : decode cX2_add 31 = .ok (.irem, 1) := by decide +kernel
theorem dX2_add_32 : decode cX2_add 32 = .ok (.putfield 16, 3) := by decide +kernel
theorem dX2_add_35 : decode cX2_add 35 = .ok (.aload_n 0, 1) := by decide +kernel
theorem dX2_add_36 : decode cX2_add 36 = .ok (.aload_n 0, 1) := by decide +kernel
theorem dX2_add_37 : decode cX2_add 37 = .ok (.getfield 20, 3) := by decide +kernel
theorem dX2_add_40 : decode cX2_add 40 = .ok (.putfield 23, 3) := by decide +kernel
theorem dX2_add_43 : decode cX2_add 43 = .ok (.aload_n 1, 1) := by decide +kernel
theorem dX2_add_44 : decode cX2_add 44 = .ok (.getfield 26, 3) := by decide +kernel
theorem dX2_add_47 : decode cX2_add 47 = .ok (.iconst 0, 1) := by decide +kernel
theorem dX2_add_48 : decode cX2_add 48 = .ok (.aload_n 0, 1) := by decide +kernel
theorem dX2_add_49 : decode cX2_add 49 = .ok (.getfield 13, 3) := by decide +kernel
theorem dX2_add_52 : decode cX2_add 52 = .ok (.aload_n 0, 1) := by decide +kernel
theorem dX2_add_53 : decode cX2_add 53 = .ok (.getfield 16, 3) := by decide +kernel
theorem dX2_add_56 : decode cX2_add 56 = .ok (.aload_n 0, 1) := by decide +kernel
theorem dX2_add_57 : decode cX2_add 57 = .ok (.getfield 20, 3) := by decide +kernel
theorem dX2_add_60 : decode cX2_add 60 = .ok (.iadd, 1) := by decide +kernel
theorem dX2_add_61 : decode cX2_add 61 = .ok (.bipush 41, 2) := by decide +kernel
theorem dX2_add_63 : decode cX2_add 63 = .ok (.irem, 1) := by decide +kernel
theorem dX2_add_64 : decode cX2_add 64 = .ok (.aaload, 1) := by decide +kernel
theorem dX2_add_65 : decode cX2_add 65 = .ok (.iconst 0, 1) := by decide +kernel
theorem dX2_add_66 : decode cX2_add 66 = .ok (.bipush 30, 2) := by decide +kernel
theorem dX2_add_68 : decode cX2_add 68 = .ok (.invokestatic 30, 3) := by decide +kernel
theorem dX2_add_71 : decode cX2_add 71 = .ok (.return_, 1) := by decide +kernel
theorem dX2_stepBack_0 : decode cX2_stepBack 0 = .ok (.aload_n 0, 1) := by decide +kernel
theorem dX2_stepBack_1 : decode cX2_stepBack 1 = .ok (.getfield 20, 3) := by decide +kernel
theorem dX2_stepBack_4 : decode cX2_stepBack 4 = .ok (.ifCond .ne 5, 3) := by decide +kernel
theorem dX2_stepBack_7 : decode cX2_stepBack 7 = .ok (.iconst 0, 1) := by decide +kernel
theorem dX2_stepBack_8 : decode cX2_stepBack 8 = .ok (.ireturn, 1) := by decide +kernel
theorem dX2_stepBack_9 : decode cX2_stepBack 9 = .ok (.aload_n 0, 1) := by decide +kernel
theorem dX2_stepBack_10 : decode cX2_stepBack 10 = .ok (.dup, 1) := by decide +kernel
theorem dX2_stepBack_11 : decode cX2_stepBack 11 = .ok (.getfield 20, 3) := by decide +kernel
theorem dX2_stepBack_14 : decode cX2_stepBack 14 = .ok (.iconst 1, 1) := by decide +kernel
theorem dX2_stepBack_15 : decode cX2_stepBack 15 = .ok (.isub, 1) := by decide +kernel
theorem dX2_stepBack_16 : decode cX2_stepBack 16 = .ok (.putfield 20, 3) := by decide +kernel
theorem dX2_stepBack_19 : decode cX2_stepBack 19 = .ok (.aload_n 0, 1) := by decide +kernel
theorem dX2_stepBack_20 : decode cX2_stepBack 20 = .ok (.aload_n 1, 1) := by decide +kernel
theorem dX2_stepBack_21 : decode cX2_stepBack 21 = .ok (.invokevirtual 36, 3) := by decide +kernel
theorem dX2_stepBack_24 : decode cX2_stepBack 24 = .ok (.iconst 1, 1) := by decide +kernel
theorem dX2_stepBack_25 : decode cX2_stepBack 25 = .ok (.ireturn, 1) := by decide +kernel
theorem dX2_stepOn_0 : decode cX2_stepOn 0 = .ok (.aload_n 0, 1) := by decide +kernel
theorem dX2_stepOn_1 : decode cX2_stepOn 1 = .ok (.getfield 20, 3) := by decide +kernel
theorem dX2_stepOn_4 : decode cX2_stepOn 4 = .ok (.aload_n 0, 1) := by decide +kernel
theorem dX2_stepOn_5 : decode cX2_stepOn 5 = .ok (.getfield 23, 3) := by decide +kernel
theorem dX2_stepOn_8 : decode cX2_stepOn 8 = .ok (.if_icmp .ne 5, 3) := by decide +kernel
theorem dX2_stepOn_11 : decode cX2_stepOn 11 = .ok (.iconst 0, 1) := by decide +kernel
theorem dX2_stepOn_12 : decode cX2_stepOn 12 = .ok (.ireturn, 1) := by decide +kernel
theorem dX2_stepOn_13 : decode cX2_stepOn 13 = .ok (.aload_n 0, 1) := by decide +kernel
theorem dX2_stepOn_14 : decode cX2_stepOn 14 = .ok (.dup, 1) := by decide +kernel
theorem dX2_stepOn_15 : decode cX2_stepOn 15 = .ok (.getfield 20, 3) := by decide +kernel
theorem dX2_stepOn_18 : decode cX2_stepOn 18 = .ok (.iconst 1, 1) := by decide +kernel
theorem dX2_stepOn_19 : decode cX2_stepOn 19 = .ok (.iadd, 1) := by decide +kernel
theorem dX2_stepOn_20 : decode cX2_stepOn 20 = .ok (.putfield 20, 3) := by decide +kernel
theorem dX2_stepOn_23 : decode cX2_stepOn 23 = .ok (.aload_n 0, 1) := by decide +kernel
theorem dX2_stepOn_24 : decode cX2_stepOn 24 = .ok (.aload_n 1, 1) := by decide +kernel
theorem dX2_stepOn_25 : decode cX2_stepOn 25 = .ok (.invokevirtual 36, 3) := by decide +kernel
theorem dX2_stepOn_28 : decode cX2_stepOn 28 = .ok (.iconst 1, 1) := by decide +kernel
theorem dX2_stepOn_29 : decode cX2_stepOn 29 = .ok (.ireturn, 1) := by decide +kernel
theorem dX2_load_0 : decode cX2_load 0 = .ok (.aload_n 0, 1) := by decide +kernel
theorem dX2_load_1 : decode cX2_load 1 = .ok (.getfield 13, 3) := by decide +kernel
theorem dX2_load_4 : decode cX2_load 4 = .ok (.aload_n 0, 1) := by decide +kernel
theorem dX2_load_5 : decode cX2_load 5 = .ok (.getfield 16, 3) := by decide +kernel
theorem dX2_load_8 : decode cX2_load 8 = .ok (.aload_n 0, 1) := by decide +kernel
theorem dX2_load_9 : decode cX2_load 9 = .ok (.getfield 20, 3) := by decide +kernel
theorem dX2_load_12 : decode cX2_load 12 = .ok (.iadd, 1) := by decide +kernel
theorem dX2_load_13 : decode cX2_load 13 = .ok (.bipush 41, 2) := by decide +kernel
theorem dX2_load_15 : decode cX2_load 15 = .ok (.irem, 1) := by decide +kernel
theorem dX2_load_16 : decode cX2_load 16 = .ok (.aaload, 1) := by decide +kernel
theorem dX2_load_17 : decode cX2_load 17 = .ok (.iconst 0, 1) := by decide +kernel
theorem dX2_load_18 : decode cX2_load 18 = .ok (.aload_n 1, 1) := by decide +kernel
theorem dX2_load_19 : decode cX2_load 19 = .ok (.getfield 26, 3) := by decide +kernel
theorem dX2_load_22 : decode cX2_load 22 = .ok (.iconst 0, 1) := by decide +kernel
theorem dX2_load_23 : decode cX2_load 23 = .ok (.bipush 30, 2) := by decide +kernel
theorem dX2_load_25 : decode cX2_load 25 = .ok (.invokestatic 30, 3) := by decide +kernel
theorem dX2_load_28 : decode cX2_load 28 = .ok (.return_, 1) := by decide +kernel
theorem dX3_init_0 : decode cX3_init 0 = .ok (.aload_n 0, 1) := by decide +kernel
theorem dX3_init_1 : decode cX3_init 1 = .ok (.invokespecial 3, 3) := by decide +kernel
theorem dX3_init_4 : decode cX3_init 4 = .ok (.aload_n 0, 1) := by decide +kernel
theorem dX3_init_5 : decode cX3_init 5 = .ok (.iconst 4, 1) := by decide +kernel
theorem dX3_init_6 : decode cX3_init 6 = .ok (.newarray .int, 2) := by decide +kernel
theorem dX3_init_8 : decode cX3_init 8 = .ok (.putfield 9, 3) := by decide +kernel
theorem dX3_init_11 : decode cX3_init 11 = .ok (.aload_n 0, 1) := by decide +kernel
theorem dX3_init_12 : decode cX3_init 12 = .ok (.aload_n 1, 1) := by decide +kernel
theorem dX3_init_13 : decode cX3_init 13 = .ok (.putfield 15, 3) := by decide +kernel
theorem dX3_init_16 : decode cX3_init 16 = .ok (.return_, 1) := by decide +kernel
theorem dX3_spouseOf_0 : decode cX3_spouseOf 0 = .ok (.iconst 0, 1) := by decide +kernel
theorem dX3_spouseOf_1 : decode cX3_spouseOf 1 = .ok (.istore_n 3, 1) := by decide +kernel
theorem dX3_spouseOf_2 : decode cX3_spouseOf 2 = .ok (.iload_n 3, 1) := by decide +kernel
theorem dX3_spouseOf_3 : decode cX3_spouseOf 3 = .ok (.aload_n 0, 1) := by decide +kernel
theorem dX3_spouseOf_4 : decode cX3_spouseOf 4 = .ok (.getfield 15, 3) := by decide +kernel
theorem dX3_spouseOf_7 : decode cX3_spouseOf 7 = .ok (.getfield 19, 3) := by decide +kernel
theorem dX3_spouseOf_10 : decode cX3_spouseOf 10 = .ok (.if_icmp .ge 73, 3) := by decide +kernel
theorem dX3_spouseOf_13 : decode cX3_spouseOf 13 = .ok (.aload_n 1, 1) := by decide +kernel
theorem dX3_spouseOf_14 : decode cX3_spouseOf 14 = .ok (.iload_n 3, 1) := by decide +kernel
theorem dX3_spouseOf_15 : decode cX3_spouseOf 15 = .ok (.invokevirtual 25, 3) := by decide +kernel
theorem dX3_spouseOf_18 : decode cX3_spouseOf 18 = .ok (.iconst 1, 1) := by decide +kernel
theorem dX3_spouseOf_19 : decode cX3_spouseOf 19 = .ok (.if_icmp .ne 26, 3) := by decide +kernel
theorem dX3_spouseOf_22 : decode cX3_spouseOf 22 = .ok (.aload_n 0, 1) := by decide +kernel
theorem dX3_spouseOf_23 : decode cX3_spouseOf 23 = .ok (.getfield 15, 3) := by decide +kernel
theorem dX3_spouseOf_26 : decode cX3_spouseOf 26 = .ok (.getfield 31, 3) := by decide +kernel
theorem dX3_spouseOf_29 : decode cX3_spouseOf 29 = .ok (.iload_n 3, 1) := by decide +kernel
theorem dX3_spouseOf_30 : decode cX3_spouseOf 30 = .ok (.iaload, 1) := by decide +kernel
theorem dX3_spouseOf_31 : decode cX3_spouseOf 31 = .ok (.iload_n 2, 1) := by decide +kernel
theorem dX3_spouseOf_32 : decode cX3_spouseOf 32 = .ok (.if_icmp .ne 13, 3) := by decide +kernel
theorem dX3_spouseOf_35 : decode cX3_spouseOf 35 = .ok (.aload_n 0, 1) := by decide +kernel
theorem dX3_spouseOf_36 : decode cX3_spouseOf 36 = .ok (.getfield 15, 3) := by decide +kernel
theorem dX3_spouseOf_39 : decode cX3_spouseOf 39 = .ok (.getfield 34, 3) := by decide +kernel
theorem dX3_spouseOf_42 : decode cX3_spouseOf 42 = .ok (.iload_n 3, 1) := by decide +kernel
theorem dX3_spouseOf_43 : decode cX3_spouseOf 43 = .ok (.iaload, 1) := by decide +kernel
theorem dX3_spouseOf_44 : decode cX3_spouseOf 44 = .ok (.ireturn, 1) := by decide +kernel
theorem dX3_spouseOf_45 : decode cX3_spouseOf 45 = .ok (.aload_n 1, 1) := by decide +kernel
theorem dX3_spouseOf_46 : decode cX3_spouseOf 46 = .ok (.iload_n 3, 1) := by decide +kernel
theorem dX3_spouseOf_47 : decode cX3_spouseOf 47 = .ok (.invokevirtual 25, 3) := by decide +kernel
theorem dX3_spouseOf_50 : decode cX3_spouseOf 50 = .ok (.iconst 1, 1) := by decide +kernel
theorem dX3_spouseOf_51 : decode cX3_spouseOf 51 = .ok (.if_icmp .ne 26, 3) := by decide +kernel
theorem dX3_spouseOf_54 : decode cX3_spouseOf 54 = .ok (.aload_n 0, 1) := by decide +kernel
theorem dX3_spouseOf_55 : decode cX3_spouseOf 55 = .ok (.getfield 15, 3) := by decide +kernel
theorem dX3_spouseOf_58 : decode cX3_spouseOf 58 = .ok (.getfield 34, 3) := by decide +kernel
theorem dX3_spouseOf_61 : decode cX3_spouseOf 61 = .ok (.iload_n 3, 1) := by decide +kernel
theorem dX3_spouseOf_62 : decode cX3_spouseOf 62 = .ok (.iaload, 1) := by decide +kernel
theorem dX3_spouseOf_63 : decode cX3_spouseOf 63 = .ok (.iload_n 2, 1) := by decide +kernel
theorem dX3_spouseOf_64 : decode cX3_spouseOf 64 = .ok (.if_icmp .ne 13, 3) := by decide +kernel
theorem dX3_spouseOf_67 : decode cX3_spouseOf 67 = .ok (.aload_n 0, 1) := by decide +kernel
theorem dX3_spouseOf_68 : decode cX3_spouseOf 68 = .ok (.getfield 15, 3) := by decide +kernel
theorem dX3_spouseOf_71 : decode cX3_spouseOf 71 = .ok (.getfield 31, 3) := by decide +kernel
theorem dX3_spouseOf_74 : decode cX3_spouseOf 74 = .ok (.iload_n 3, 1) := by decide +kernel
theorem dX3_spouseOf_75 : decode cX3_spouseOf 75 = .ok (.iaload, 1) := by decide +kernel
theorem dX3_spouseOf_76 : decode cX3_spouseOf 76 = .ok (.ireturn, 1) := by decide +kernel
theorem dX3_spouseOf_77 : decode cX3_spouseOf 77 = .ok (.iinc 3 1, 3) := by decide +kernel
theorem dX3_spouseOf_80 : decode cX3_spouseOf 80 = .ok (.goto (-78), 3) := by decide +kernel
theorem dX3_spouseOf_83 : decode cX3_spouseOf 83 = .ok (.iconst (-1), 1) := by decide +kernel
theorem dX3_spouseOf_84 : decode cX3_spouseOf 84 = .ok (.ireturn, 1) := by decide +kernel
theorem dX3_wedBeside_0 : decode cX3_wedBeside 0 = .ok (.iconst 0, 1) := by decide +kernel
theorem dX3_wedBeside_1 : decode cX3_wedBeside 1 = .ok (.istore_n 3, 1) := by decide +kernel
theorem dX3_wedBeside_2 : decode cX3_wedBeside 2 = .ok (.iconst 0, 1) := by decide +kernel
theorem dX3_wedBeside_3 : decode cX3_wedBeside 3 = .ok (.istore 4, 2) := by decide +kernel
theorem dX3_wedBeside_5 : decode cX3_wedBeside 5 = .ok (.iload 4, 2) := by decide +kernel
theorem dX3_wedBeside_7 : decode cX3_wedBeside 7 = .ok (.aload_n 0, 1) := by decide +kernel
theorem dX3_wedBeside_8 : decode cX3_wedBeside 8 = .ok (.getfield 15, 3) := by decide +kernel
theorem dX3_wedBeside_11 : decode cX3_wedBeside 11 = .ok (.getfield 19, 3) := by decide +kernel
theorem dX3_wedBeside_14 : decode cX3_wedBeside 14 = .ok (.if_icmp .ge 37, 3) := by decide +kernel
theorem dX3_wedBeside_17 : decode cX3_wedBeside 17 = .ok (.iload 4, 2) := by decide +kernel
theorem dX3_wedBeside_19 : decode cX3_wedBeside 19 = .ok (.iload_n 2, 1) := by decide +kernel
theorem dX3_wedBeside_20 : decode cX3_wedBeside 20 = .ok (.if_icmp .eq 25, 3) := by decide +kernel
theorem dX3_wedBeside_23 : decode cX3_wedBeside 23 = .ok (.aload_n 1, 1) := by decide +kernel
theorem dX3_wedBeside_24 : decode cX3_wedBeside 24 = .ok (.iload 4, 2) := by decide +kernel
theorem dX3_wedBeside_26 : decode cX3_wedBeside 26 = .ok (.invokevirtual 25, 3) := by decide +kernel
theorem dX3_wedBeside_29 : decode cX3_wedBeside 29 = .ok (.iconst 1, 1) := by decide +kernel
theorem dX3_wedBeside_30 : decode cX3_wedBeside 30 = .ok (.if_icmp .ne 15, 3) := by decide +kernel
theorem dX3_wedBeside_33 : decode cX3_wedBeside 33 = .ok (.iload_n 3, 1) := by decide +kernel
theorem dX3_wedBeside_34 : decode cX3_wedBeside 34 = .ok (.aload_n 0, 1) := by decide +kernel
theorem dX3_wedBeside_35 : decode cX3_wedBeside 35 = .ok (.getfield 15, 3) := by decide +kernel
theorem dX3_wedBeside_38 : decode cX3_wedBeside 38 = .ok (.iload 4, 2) := by decide +kernel
theorem dX3_wedBeside_40 : decode cX3_wedBeside 40 = .ok (.invokevirtual 37, 3) := by decide +kernel
theorem dX3_wedBeside_43 : decode cX3_wedBeside 43 = .ok (.ior, 1) := by decide +kernel
theorem dX3_wedBeside_44 : decode cX3_wedBeside 44 = .ok (.istore_n 3, 1) := by decide +kernel
theorem dX3_wedBeside_45 : decode cX3_wedBeside 45 = .ok (.iinc 4 1, 3) := by decide +kernel
theorem dX3_wedBeside_48 : decode cX3_wedBeside 48 = .ok (.goto (-43), 3) := by decide +kernel
theorem dX3_wedBeside_51 : decode cX3_wedBeside 51 = .ok (.iload_n 3, 1) := by decide +kernel
theorem dX3_wedBeside_52 : decode cX3_wedBeside 52 = .ok (.ireturn, 1) := by decide +kernel
theorem dX3_barOf_0 : decode cX3_barOf 0 = .ok (.aload_n 0, 1) := by decide +kernel
theorem dX3_barOf_1 : decode cX3_barOf 1 = .ok (.aload_n 1, 1) := by decide +kernel
theorem dX3_barOf_2 : decode cX3_barOf 2 = .ok (.aload_n 0, 1) := by decide +kernel
theorem dX3_barOf_3 : decode cX3_barOf 3 = .ok (.getfield 15, 3) := by decide +kernel
theorem dX3_barOf_6 : decode cX3_barOf 6 = .ok (.getfield 31, 3) := by decide +kernel
theorem dX3_barOf_9 : decode cX3_barOf 9 = .ok (.iload_n 2, 1) := by decide +kernel
theorem dX3_barOf_10 : decode cX3_barOf 10 = .ok (.iaload, 1) := by decide +kernel
theorem dX3_barOf_11 : decode cX3_barOf 11 = .ok (.aload_n 0, 1) := by decide +kernel
theorem dX3_barOf_12 : decode cX3_barOf 12 = .ok (.getfield 15, 3) := by decide +kernel
theorem dX3_barOf_15 : decode cX3_barOf 15 = .ok (.getfield 34, 3) := by decide +kernel
theorem dX3_barOf_18 : decode cX3_barOf 18 = .ok (.iload_n 2, 1) := by decide +kernel
theorem dX3_barOf_19 : decode cX3_barOf 19 = .ok (.iaload, 1) := by decide +kernel
theorem dX3_barOf_20 : decode cX3_barOf 20 = .ok (.iload_n 2, 1) := by decide +kernel
theorem dX3_barOf_21 : decode cX3_barOf 21 = .ok (.invokevirtual 40, 3) := by decide +kernel
theorem dX3_barOf_24 : decode cX3_barOf 24 = .ok (.ireturn, 1) := by decide +kernel
theorem dX3_barBetween_0 : decode cX3_barBetween 0 = .ok (.iconst 1, 1) := by decide +kernel
theorem dX3_barBetween_1 : decode cX3_barBetween 1 = .ok (.iload_n 2, 1) := by decide +kernel
theorem dX3_barBetween_2 : decode cX3_barBetween 2 = .ok (.ishl, 1) := by decide +kernel
theorem dX3_barBetween_3 : decode cX3_barBetween 3 = .ok (.iconst 1, 1) := by decide +kernel
theorem dX3_barBetween_4 : decode cX3_barBetween 4 = .ok (.iload_n 3, 1) := by decide +kernel
theorem dX3_barBetween_5 : decode cX3_barBetween 5 = .ok (.ishl, 1) := by decide +kernel
theorem dX3_barBetween_6 : decode cX3_barBetween 6 = .ok (.ior, 1) := by decide +kernel
theorem dX3_barBetween_7 : decode cX3_barBetween 7 = .ok (.istore 5, 2) := by decide +kernel
theorem dX3_barBetween_9 : decode cX3_barBetween 9 = .ok (.aload_n 0, 1) := by decide +kernel
theorem dX3_barBetween_10 : decode cX3_barBetween 10 = .ok (.getfield 15, 3) := by decide +kernel
theorem dX3_barBetween_13 : decode cX3_barBetween 13 = .ok (.getfield 44, 3) := by decide +kernel
theorem dX3_barBetween_16 : decode cX3_barBetween 16 = .ok (.iload_n 2, 1) := by decide +kernel
theorem dX3_barBetween_17 : decode cX3_barBetween 17 = .ok (.iload_n 3, 1) := by decide +kernel
theorem dX3_barBetween_18 : decode cX3_barBetween 18 = .ok (.aload_n 0, 1) := by decide +kernel
theorem dX3_barBetween_19 : decode cX3_barBetween 19 = .ok (.getfield 15, 3) := by decide +kernel
theorem dX3_barBetween_22 : decode cX3_barBetween 22 = .ok (.getfield 48, 3) := by decide +kernel
theorem dX3_barBetween_25 : decode cX3_barBetween 25 = .ok (.invokevirtual 51, 3) := by decide +kernel
theorem dX3_barBetween_28 : decode cX3_barBetween 28 = .ok (.ifCond .eq 5, 3) := by decide +kernel
theorem dX3_barBetween_31 : decode cX3_barBetween 31 = .ok (.iconst 1, 1) := by decide +kernel
theorem dX3_barBetween_32 : decode cX3_barBetween 32 = .ok (.ireturn, 1) := by decide +kernel
theorem dX3_barBetween_33 : decode cX3_barBetween 33 = .ok (.aload_n 0, 1) := by decide +kernel
theorem dX3_barBetween_34 : decode cX3_barBetween 34 = .ok (.getfield 15, 3) := by decide +kernel
theorem dX3_barBetween_37 : decode cX3_barBetween 37 = .ok (.getfield 57, 3) := by decide +kernel
theorem dX3_barBetween_40 : decode cX3_barBetween 40 = .ok (.iload 5, 2) := by decide +kernel
theorem dX3_barBetween_42 : decode cX3_barBetween 42 = .ok (.iand, 1) := by decide +kernel
theorem dX3_barBetween_43 : decode cX3_barBetween 43 = .ok (.ifCond .eq 5, 3) := by decide +kernel
theorem dX3_barBetween_46 : decode cX3_barBetween 46 = .ok (.iconst 2, 1) := by decide +kernel
theorem dX3_barBetween_47 : decode cX3_barBetween 47 = .ok (.ireturn, 1) := by decide +kernel
theorem dX3_barBetween_48 : decode cX3_barBetween 48 = .ok (.aload_n 0, 1) := by decide +kernel
theorem dX3_barBetween_49 : decode cX3_barBetween 49 = .ok (.aload_n 1, 1) := by decide +kernel
theorem dX3_barBetween_50 : decode cX3_barBetween 50 = .ok (.iload 4, 2) := by decide +kernel
theorem dX3_barBetween_52 : decode cX3_barBetween 52 = .ok (.invokevirtual 60, 3) := by decide +kernel
theorem dX3_barBetween_55 : decode cX3_barBetween 55 = .ok (.iload 5, 2) := by decide +kernel
theorem dX3_barBetween_57 : decode cX3_barBetween 57 = .ok (.iand, 1) := by decide +kernel
theorem dX3_barBetween_58 : decode cX3_barBetween 58 = .ok (.ifCond .eq 7, 3) := by decide +kernel
theorem dX3_barBetween_61 : decode cX3_barBetween 61 = .ok (.iconst 3, 1) := by decide +kernel
theorem dX3_barBetween_62 : decode cX3_barBetween 62 = .ok (.goto 4, 3) := by decide +kernel
theorem dX3_barBetween_65 : decode cX3_barBetween 65 = .ok (.iconst 0, 1) := by decide +kernel
theorem dX3_barBetween_66 : decode cX3_barBetween 66 = .ok (.ireturn, 1) := by decide +kernel
theorem dX3_risersOf_0 : decode cX3_risersOf 0 = .ok (.aload_n 0, 1) := by decide +kernel
theorem dX3_risersOf_1 : decode cX3_risersOf 1 = .ok (.aload_n 1, 1) := by decide +kernel
theorem dX3_risersOf_2 : decode cX3_risersOf 2 = .ok (.aload_n 0, 1) := by decide +kernel
theorem dX3_risersOf_3 : decode cX3_risersOf 3 = .ok (.getfield 15, 3) := by decide +kernel
theorem dX3_risersOf_6 : decode cX3_risersOf 6 = .ok (.getfield 31, 3) := by decide +kernel
theorem dX3_risersOf_9 : decode cX3_risersOf 9 = .ok (.iload_n 2, 1) := by decide +kernel
theorem dX3_risersOf_10 : decode cX3_risersOf 10 = .ok (.iaload, 1) := by decide +kernel
theorem dX3_risersOf_11 : decode cX3_risersOf 11 = .ok (.aload_n 0, 1) := by decide +kernel
theorem dX3_risersOf_12 : decode cX3_risersOf 12 = .ok (.getfield 15, 3) := by decide +kernel
theorem dX3_risersOf_15 : decode cX3_risersOf 15 = .ok (.getfield 34, 3) := by decide +kernel
theorem dX3_risersOf_18 : decode cX3_risersOf 18 = .ok (.iload_n 2, 1) := by decide +kernel
theorem dX3_risersOf_19 : decode cX3_risersOf 19 = .ok (.iaload, 1) := by decide +kernel
theorem dX3_risersOf_20 : decode cX3_risersOf 20 = .ok (.iload_n 2, 1) := by decide +kernel
theorem dX3_risersOf_21 : decode cX3_risersOf 21 = .ok (.invokevirtual 40, 3) := by decide +kernel
theorem dX3_risersOf_24 : decode cX3_risersOf 24 = .ok (.ifCond .eq 7, 3) := by decide +kernel
theorem dX3_risersOf_27 : decode cX3_risersOf 27 = .ok (.iconst 1, 1) := by decide +kernel
theorem dX3_risersOf_28 : decode cX3_risersOf 28 = .ok (.goto 4, 3) := by decide +kernel
theorem dX3_risersOf_31 : decode cX3_risersOf 31 = .ok (.iconst 0, 1) := by decide +kernel
theorem dX3_risersOf_32 : decode cX3_risersOf 32 = .ok (.istore_n 3, 1) := by decide +kernel
theorem dX3_risersOf_33 : decode cX3_risersOf 33 = .ok (.aload_n 0, 1) := by decide +kernel
theorem dX3_risersOf_34 : decode cX3_risersOf 34 = .ok (.getfield 15, 3) := by decide +kernel
theorem dX3_risersOf_37 : decode cX3_risersOf 37 = .ok (.iload_n 2, 1) := by decide +kernel
theorem dX3_risersOf_38 : decode cX3_risersOf 38 = .ok (.invokevirtual 37, 3) := by decide +kernel
theorem dX3_risersOf_41 : decode cX3_risersOf 41 = .ok (.istore 4, 2) := by decide +kernel
theorem dX3_risersOf_43 : decode cX3_risersOf 43 = .ok (.iconst 0, 1) := by decide +kernel
theorem dX3_risersOf_44 : decode cX3_risersOf 44 = .ok (.istore 5, 2) := by decide +kernel
theorem dX3_risersOf_46 : decode cX3_risersOf 46 = .ok (.iconst 0, 1) := by decide +kernel
theorem dX3_risersOf_47 : decode cX3_risersOf 47 = .ok (.istore 6, 2) := by decide +kernel
theorem dX3_risersOf_49 : decode cX3_risersOf 49 = .ok (.iload 6, 2) := by decide +kernel
theorem dX3_risersOf_51 : decode cX3_risersOf 51 = .ok (.aload_n 0, 1) := by decide +kernel
theorem dX3_risersOf_52 : decode cX3_risersOf 52 = .ok (.getfield 15, 3) := by decide +kernel
theorem dX3_risersOf_55 : decode cX3_risersOf 55 = .ok (.getfield 64, 3) := by decide +kernel
theorem dX3_risersOf_58 : decode cX3_risersOf 58 = .ok (.if_icmp .ge 81, 3) := by decide +kernel
theorem dX3_risersOf_61 : decode cX3_risersOf 61 = .ok (.aload_n 0, 1) := by decide +kernel
theorem dX3_risersOf_62 : decode cX3_risersOf 62 = .ok (.getfield 15, 3) := by decide +kernel
theorem dX3_risersOf_65 : decode cX3_risersOf 65 = .ok (.getfield 67, 3) := by decide +kernel
theorem dX3_risersOf_68 : decode cX3_risersOf 68 = .ok (.iload 6, 2) := by decide +kernel
theorem dX3_risersOf_70 : decode cX3_risersOf 70 = .ok (.iaload, 1) := by decide +kernel
theorem dX3_risersOf_71 : decode cX3_risersOf 71 = .ok (.iload 4, 2) := by decide +kernel
theorem dX3_risersOf_73 : decode cX3_risersOf 73 = .ok (.iand, 1) := by decide +kernel
theorem dX3_risersOf_74 : decode cX3_risersOf 74 = .ok (.ifCond .eq 7, 3) := by decide +kernel
theorem dX3_risersOf_77 : decode cX3_risersOf 77 = .ok (.iconst 1, 1) := by decide +kernel
theorem dX3_risersOf_78 : decode cX3_risersOf 78 = .ok (.goto 4, 3) := by decide +kernel
theorem dX3_risersOf_81 : decode cX3_risersOf 81 = .ok (.iconst 0, 1) := by decide +kernel
theorem dX3_risersOf_82 : decode cX3_risersOf 82 = .ok (.istore 7, 2) := by decide +kernel
theorem dX3_risersOf_84 : decode cX3_risersOf 84 = .ok (.aload_n 0, 1) := by decide +kernel
theorem dX3_risersOf_85 : decode cX3_risersOf 85 = .ok (.getfield 15, 3) := by decide +kernel
theorem dX3_risersOf_88 : decode cX3_risersOf 88 = .ok (.getfield 44, 3) := by decide +kernel
theorem dX3_risersOf_91 : decode cX3_risersOf 91 = .ok (.getfield 70, 3) := by decide +kernel
theorem dX3_risersOf_94 : decode cX3_risersOf 94 = .ok (.iload 6, 2) := by decide +kernel
theorem dX3_risersOf_96 : decode cX3_risersOf 96 = .ok (.iaload, 1) := by decide +kernel
theorem dX3_risersOf_97 : decode cX3_risersOf 97 = .ok (.iload 4, 2) := by decide +kernel
theorem dX3_risersOf_99 : decode cX3_risersOf 99 = .ok (.iand, 1) := by decide +kernel
theorem dX3_risersOf_100 : decode cX3_risersOf 100 = .ok (.ifCond .eq 7, 3) := by decide +kernel
theorem dX3_risersOf_103 : decode cX3_risersOf 103 = .ok (.iconst 1, 1) := by decide +kernel
theorem dX3_risersOf_104 : decode cX3_risersOf 104 = .ok (.goto 4, 3) := by decide +kernel
theorem dX3_risersOf_107 : decode cX3_risersOf 107 = .ok (.iconst 0, 1) := by decide +kernel
theorem dX3_risersOf_108 : decode cX3_risersOf 108 = .ok (.istore 8, 2) := by decide +kernel
theorem dX3_risersOf_110 : decode cX3_risersOf 110 = .ok (.iload 7, 2) := by decide +kernel
theorem dX3_risersOf_112 : decode cX3_risersOf 112 = .ok (.ifCond .ne 12, 3) := by decide +kernel
theorem dX3_risersOf_115 : decode cX3_risersOf 115 = .ok (.iload_n 3, 1) := by decide +kernel
theorem dX3_risersOf_116 : decode cX3_risersOf 116 = .ok (.ifCond .eq 17, 3) := by decide +kernel
theorem dX3_risersOf_119 : decode cX3_risersOf 119 = .ok (.iload 8, 2) := by decide +kernel
theorem dX3_risersOf_121 : decode cX3_risersOf 121 = .ok (.ifCond .eq 12, 3) := by decide +kernel
theorem dX3_risersOf_124 : decode cX3_risersOf 124 = .ok (.iload 5, 2) := by decide +kernel
theorem dX3_risersOf_126 : decode cX3_risersOf 126 = .ok (.iconst 1, 1) := by decide +kernel
theorem dX3_risersOf_127 : decode cX3_risersOf 127 = .ok (.iload 6, 2) := by decide +kernel
theorem dX3_risersOf_129 : decode cX3_risersOf 129 = .ok (.ishl, 1) := by decide +kernel
theorem dX3_risersOf_130 : decode cX3_risersOf 130 = .ok (.ior, 1) := by decide +kernel
theorem dX3_risersOf_131 : decode cX3_risersOf 131 = .ok (.istore 5, 2) := by decide +kernel
theorem dX3_risersOf_133 : decode cX3_risersOf 133 = .ok (.iinc 6 1, 3) := by decide +kernel
theorem dX3_risersOf_136 : decode cX3_risersOf 136 = .ok (.goto (-87), 3) := by decide +kernel
theorem dX3_risersOf_139 : decode cX3_risersOf 139 = .ok (.iload 5, 2) := by decide +kernel
theorem dX3_risersOf_141 : decode cX3_risersOf 141 = .ok (.iload 4, 2) := by decide +kernel
theorem dX3_risersOf_143 : decode cX3_risersOf 143 = .ok (.iconst (-1), 1) := by decide +kernel
theorem dX3_risersOf_144 : decode cX3_risersOf 144 = .ok (.ixor, 1) := by decide +kernel
theorem dX3_risersOf_145 : decode cX3_risersOf 145 = .ok (.iand, 1) := by decide +kernel
theorem dX3_risersOf_146 : decode cX3_risersOf 146 = .ok (.ireturn, 1) := by decide +kernel
theorem dX3_sittersIn_0 : decode cX3_sittersIn 0 = .ok (.iconst 0, 1) := by decide +kernel
theorem dX3_sittersIn_1 : decode cX3_sittersIn 1 = .ok (.istore_n 3, 1) := by decide +kernel
theorem dX3_sittersIn_2 : decode cX3_sittersIn 2 = .ok (.iconst 0, 1) := by decide +kernel
theorem dX3_sittersIn_3 : decode cX3_sittersIn 3 = .ok (.istore 4, 2) := by decide +kernel
theorem dX3_sittersIn_5 : decode cX3_sittersIn 5 = .ok (.iload 4, 2) := by decide +kernel
theorem dX3_sittersIn_7 : decode cX3_sittersIn 7 = .ok (.aload_n 0, 1) := by decide +kernel
theorem dX3_sittersIn_8 : decode cX3_sittersIn 8 = .ok (.getfield 15, 3) := by decide +kernel
theorem dX3_sittersIn_11 : decode cX3_sittersIn 11 = .ok (.getfield 64, 3) := by decide +kernel
theorem dX3_sittersIn_14 : decode cX3_sittersIn 14 = .ok (.if_icmp .ge 26, 3) := by decide +kernel
theorem dX3_sittersIn_17 : decode cX3_sittersIn 17 = .ok (.aload_n 1, 1) := by decide +kernel
theorem dX3_sittersIn_18 : decode cX3_sittersIn 18 = .ok (.iload 4, 2) := by decide +kernel
theorem dX3_sittersIn_20 : decode cX3_sittersIn 20 = .ok (.invokevirtual 73, 3) := by decide +kernel
theorem dX3_sittersIn_23 : decode cX3_sittersIn 23 = .ok (.iload_n 2, 1) := by decide +kernel
theorem dX3_sittersIn_24 : decode cX3_sittersIn 24 = .ok (.if_icmp .ne 10, 3) := by decide +kernel
theorem dX3_sittersIn_27 : decode cX3_sittersIn 27 = .ok (.iload_n 3, 1) := by decide +kernel
theorem dX3_sittersIn_28 : decode cX3_sittersIn 28 = .ok (.iconst 1, 1) := by decide +kernel
theorem dX3_sittersIn_29 : decode cX3_sittersIn 29 = .ok (.iload 4, 2) := by decide +kernel
theorem dX3_sittersIn_31 : decode cX3_sittersIn 31 = .ok (.ishl, 1) := by decide +kernel
theorem dX3_sittersIn_32 : decode cX3_sittersIn 32 = .ok (.ior, 1) := by decide +kernel
theorem dX3_sittersIn_33 : decode cX3_sittersIn 33 = .ok (.istore_n 3, 1) := by decide +kernel
theorem dX3_sittersIn_34 : decode cX3_sittersIn 34 = .ok (.iinc 4 1, 3) := by decide +kernel
theorem dX3_sittersIn_37 : decode cX3_sittersIn 37 = .ok (.goto (-32), 3) := by decide +kernel
theorem dX3_sittersIn_40 : decode cX3_sittersIn 40 = .ok (.iload_n 3, 1) := by decide +kernel
theorem dX3_sittersIn_41 : decode cX3_sittersIn 41 = .ok (.ireturn, 1) := by decide +kernel
theorem dX3_presentIn_0 : decode cX3_presentIn 0 = .ok (.iconst 0, 1) := by decide +kernel
theorem dX3_presentIn_1 : decode cX3_presentIn 1 = .ok (.istore 4, 2) := by decide +kernel
theorem dX3_presentIn_3 : decode cX3_presentIn 3 = .ok (.iconst 0, 1) := by decide +kernel
theorem dX3_presentIn_4 : decode cX3_presentIn 4 = .ok (.istore 5, 2) := by decide +kernel
theorem dX3_presentIn_6 : decode cX3_presentIn 6 = .ok (.iload 5, 2) := by decide +kernel
theorem dX3_presentIn_8 : decode cX3_presentIn 8 = .ok (.aload_n 0, 1) := by decide +kernel
theorem dX3_presentIn_9 : decode cX3_presentIn 9 = .ok (.getfield 15, 3) := by decide +kernel
theorem dX3_presentIn_12 : decode cX3_presentIn 12 = .ok (.getfield 64, 3) := by decide +kernel
theorem dX3_presentIn_15 : decode cX3_presentIn 15 = .ok (.if_icmp .ge 54, 3) := by decide +kernel
theorem dX3_presentIn_18 : decode cX3_presentIn 18 = .ok (.aload_n 1, 1) := by decide +kernel
theorem dX3_presentIn_19 : decode cX3_presentIn 19 = .ok (.iload 5, 2) := by decide +kernel
theorem dX3_presentIn_21 : decode cX3_presentIn 21 = .ok (.invokevirtual 73, 3) := by decide +kernel
theorem dX3_presentIn_24 : decode cX3_presentIn 24 = .ok (.istore 6, 2) := by decide +kernel
theorem dX3_presentIn_26 : decode cX3_presentIn 26 = .ok (.iload 6, 2) := by decide +kernel
theorem dX3_presentIn_28 : decode cX3_presentIn 28 = .ok (.iload_n 2, 1) := by decide +kernel
theorem dX3_presentIn_29 : decode cX3_presentIn 29 = .ok (.if_icmp .eq 9, 3) := by decide +kernel
theorem dX3_presentIn_32 : decode cX3_presentIn 32 = .ok (.iload 6, 2) := by decide +kernel
theorem dX3_presentIn_34 : decode cX3_presentIn 34 = .ok (.iload_n 3, 1) := by decide +kernel
theorem dX3_presentIn_35 : decode cX3_presentIn 35 = .ok (.if_icmp .ne 28, 3) := by decide +kernel
theorem dX3_presentIn_38 : decode cX3_presentIn 38 = .ok (.aload_n 0, 1) := by decide +kernel
theorem dX3_presentIn_39 : decode cX3_presentIn 39 = .ok (.getfield 15, 3) := by decide +kernel
theorem dX3_presentIn_42 : decode cX3_presentIn 42 = .ok (.iload 5, 2) := by decide +kernel
theorem dX3_presentIn_44 : decode cX3_presentIn 44 = .ok (.aload_n 1, 1) := by decide +kernel
theorem dX3_presentIn_45 : decode cX3_presentIn 45 = .ok (.invokevirtual 76, 3) := by decide +kernel
theorem dX3_presentIn_48 : decode cX3_presentIn 48 = .ok (.invokevirtual 80, 3) := by decide +kernel
theorem dX3_presentIn_51 : decode cX3_presentIn 51 = .ok (.ifCond .ne 12, 3) := by decide +kernel
theorem dX3_presentIn_54 : decode cX3_presentIn 54 = .ok (.iload 4, 2) := by decide +kernel
theorem dX3_presentIn_56 : decode cX3_presentIn 56 = .ok (.iconst 1, 1) := by decide +kernel
theorem dX3_presentIn_57 : decode cX3_presentIn 57 = .ok (.iload 5, 2) := by decide +kernel
theorem dX3_presentIn_59 : decode cX3_presentIn 59 = .ok (.ishl, 1) := by decide +kernel
theorem dX3_presentIn_60 : decode cX3_presentIn 60 = .ok (.ior, 1) := by decide +kernel
theorem dX3_presentIn_61 : decode cX3_presentIn 61 = .ok (.istore 4, 2) := by decide +kernel
theorem dX3_presentIn_63 : decode cX3_presentIn 63 = .ok (.iinc 5 1, 3) := by decide +kernel
theorem dX3_presentIn_66 : decode cX3_presentIn 66 = .ok (.goto (-60), 3) := by decide +kernel
theorem dX3_presentIn_69 : decode cX3_presentIn 69 = .ok (.iload 4, 2) := by decide +kernel
theorem dX3_presentIn_71 : decode cX3_presentIn 71 = .ok (.ireturn, 1) := by decide +kernel
theorem dX3_calledNext_0 : decode cX3_calledNext 0 = .ok (.aload_n 0, 1) := by decide +kernel
theorem dX3_calledNext_1 : decode cX3_calledNext 1 = .ok (.getfield 9, 3) := by decide +kernel
theorem dX3_calledNext_4 : decode cX3_calledNext 4 = .ok (.iconst 0, 1) := by decide +kernel
theorem dX3_calledNext_5 : decode cX3_calledNext 5 = .ok (.invokestatic 84, 3) := by decide +kernel
theorem dX3_calledNext_8 : decode cX3_calledNext 8 = .ok (.iconst 0, 1) := by decide +kernel
theorem dX3_calledNext_9 : decode cX3_calledNext 9 = .ok (.istore_n 2, 1) := by decide +kernel
theorem dX3_calledNext_10 : decode cX3_calledNext 10 = .ok (.iconst 0, 1) := by decide +kernel
theorem dX3_calledNext_11 : decode cX3_calledNext 11 = .ok (.istore_n 3, 1) := by decide +kernel
theorem dX3_calledNext_12 : decode cX3_calledNext 12 = .ok (.iload_n 3, 1) := by decide +kernel
theorem dX3_calledNext_13 : decode cX3_calledNext 13 = .ok (.aload_n 0, 1) := by decide +kernel
theorem dX3_calledNext_14 : decode cX3_calledNext 14 = .ok (.getfield 15, 3) := by decide +kernel
theorem dX3_calledNext_17 : decode cX3_calledNext 17 = .ok (.getfield 19, 3) := by decide +kernel
theorem dX3_calledNext_20 : decode cX3_calledNext 20 = .ok (.if_icmp .ge 55, 3) := by decide +kernel
theorem dX3_calledNext_23 : decode cX3_calledNext 23 = .ok (.aload_n 1, 1) := by decide +kernel
theorem dX3_calledNext_24 : decode cX3_calledNext 24 = .ok (.iload_n 3, 1) := by decide +kernel
theorem dX3_calledNext_25 : decode cX3_calledNext 25 = .ok (.invokevirtual 25, 3) := by decide +kernel
theorem dX3_calledNext_28 : decode cX3_calledNext 28 = .ok (.ifCond .ne 41, 3) := by decide +kernel
theorem dX3_calledNext_31 : decode cX3_calledNext 31 = .ok (.aload_n 0, 1) := by decide +kernel
theorem dX3_calledNext_32 : decode cX3_calledNext 32 = .ok (.getfield 15, 3) := by decide +kernel
theorem dX3_calledNext_35 : decode cX3_calledNext 35 = .ok (.iload_n 3, 1) := by decide +kernel
theorem dX3_calledNext_36 : decode cX3_calledNext 36 = .ok (.aload_n 1, 1) := by decide +kernel
theorem dX3_calledNext_37 : decode cX3_calledNext 37 = .ok (.invokevirtual 76, 3) := by decide +kernel
theorem dX3_calledNext_40 : decode cX3_calledNext 40 = .ok (.invokevirtual 90, 3) := by decide +kernel
theorem dX3_calledNext_43 : decode cX3_calledNext 43 = .ok (.ifCond .ne 26, 3) := by decide +kernel
theorem dX3_calledNext_46 : decode cX3_calledNext 46 = .ok (.aload_n 0, 1) := by decide +kernel
theorem dX3_calledNext_47 : decode cX3_calledNext 47 = .ok (.aload_n 1, 1) := by decide +kernel
theorem dX3_calledNext_48 : decode cX3_calledNext 48 = .ok (.iload_n 3, 1) := by decide +kernel
theorem dX3_calledNext_49 : decode cX3_calledNext 49 = .ok (.invokevirtual 93, 3) := by decide +kernel
theorem dX3_calledNext_52 : decode cX3_calledNext 52 = .ok (.aload_n 1, 1) := by decide +kernel
theorem dX3_calledNext_53 : decode cX3_calledNext 53 = .ok (.iload_n 3, 1) := by decide +kernel
theorem dX3_calledNext_54 : decode cX3_calledNext 54 = .ok (.invokevirtual 96, 3) := by decide +kernel
theorem dX3_calledNext_57 : decode cX3_calledNext 57 = .ok (.invokevirtual 99, 3) := by decide +kernel
theorem dX3_calledNext_60 : decode cX3_calledNext 60 = .ok (.ifCond .eq 9, 3) := by decide +kernel
theorem dX3_calledNext_63 : decode cX3_calledNext 63 = .ok (.iload_n 2, 1) := by decide +kernel
theorem dX3_calledNext_64 : decode cX3_calledNext 64 = .ok (.iconst 1, 1) := by decide +kernel
theorem dX3_calledNext_65 : decode cX3_calledNext 65 = .ok (.iload_n 3, 1) := by decide +kernel
theorem dX3_calledNext_66 : decode cX3_calledNext 66 = .ok (.ishl, 1) := by decide +kernel
theorem dX3_calledNext_67 : decode cX3_calledNext 67 = .ok (.ior, 1) := by decide +kernel
theorem dX3_calledNext_68 : decode cX3_calledNext 68 = .ok (.istore_n 2, 1) := by decide +kernel
theorem dX3_calledNext_69 : decode cX3_calledNext 69 = .ok (.iinc 3 1, 3) := by decide +kernel
theorem dX3_calledNext_72 : decode cX3_calledNext 72 = .ok (.goto (-60), 3) := by decide +kernel
theorem dX3_calledNext_75 : decode cX3_calledNext 75 = .ok (.iload_n 2, 1) := by decide +kernel
theorem dX3_calledNext_76 : decode cX3_calledNext 76 = .ok (.ireturn, 1) := by decide +kernel
theorem dX3_takesCall_0 : decode cX3_takesCall 0 = .ok (.aload_n 0, 1) := by decide +kernel
theorem dX3_takesCall_1 : decode cX3_takesCall 1 = .ok (.getfield 9, 3) := by decide +kernel
theorem dX3_takesCall_4 : decode cX3_takesCall 4 = .ok (.iload_n 1, 1) := by decide +kernel
theorem dX3_takesCall_5 : decode cX3_takesCall 5 = .ok (.iaload, 1) := by decide +kernel
theorem dX3_takesCall_6 : decode cX3_takesCall 6 = .ok (.aload_n 0, 1) := by decide +kernel
theorem dX3_takesCall_7 : decode cX3_takesCall 7 = .ok (.getfield 15, 3) := by decide +kernel
theorem dX3_takesCall_10 : decode cX3_takesCall 10 = .ok (.getfield 102, 3) := by decide +kernel
theorem dX3_takesCall_13 : decode cX3_takesCall 13 = .ok (.if_icmp .ge 19, 3) := by decide +kernel
theorem dX3_takesCall_16 : decode cX3_takesCall 16 = .ok (.aload_n 0, 1) := by decide +kernel
theorem dX3_takesCall_17 : decode cX3_takesCall 17 = .ok (.getfield 9, 3) := by decide +kernel
theorem dX3_takesCall_20 : decode cX3_takesCall 20 = .ok (.iload_n 2, 1) := by decide +kernel
theorem dX3_takesCall_21 : decode cX3_takesCall 21 = .ok (.iaload, 1) := by decide +kernel
theorem dX3_takesCall_22 : decode cX3_takesCall 22 = .ok (.aload_n 0, 1) := by decide +kernel
theorem dX3_takesCall_23 : decode cX3_takesCall 23 = .ok (.getfield 15, 3) := by decide +kernel
theorem dX3_takesCall_26 : decode cX3_takesCall 26 = .ok (.getfield 102, 3) := by decide +kernel
theorem dX3_takesCall_29 : decode cX3_takesCall 29 = .ok (.if_icmp .lt 5, 3) := by decide +kernel
theorem dX3_takesCall_32 : decode cX3_takesCall 32 = .ok (.iconst 0, 1) := by decide +kernel
theorem dX3_takesCall_33 : decode cX3_takesCall 33 = .ok (.ireturn, 1) := by decide +kernel
theorem dX3_takesCall_34 : decode cX3_takesCall 34 = .ok (.aload_n 0, 1) := by decide +kernel
theorem dX3_takesCall_35 : decode cX3_takesCall 35 = .ok (.getfield 9, 3) := by decide +kernel
theorem dX3_takesCall_38 : decode cX3_takesCall 38 = .ok (.iload_n 1, 1) := by decide +kernel
theorem dX3_takesCall_39 : decode cX3_takesCall 39 = .ok (.dup2, 1) := by decide +kernel
theorem dX3_takesCall_40 : decode cX3_takesCall 40 = .ok (.iaload, 1) := by decide +kernel
theorem dX3_takesCall_41 : decode cX3_takesCall 41 = .ok (.iconst 1, 1) := by decide +kernel
theorem dX3_takesCall_42 : decode cX3_takesCall 42 = .ok (.iadd, 1) := by decide +kernel
theorem dX3_takesCall_43 : decode cX3_takesCall 43 = .ok (.iastore, 1) := by decide +kernel
theorem dX3_takesCall_44 : decode cX3_takesCall 44 = .ok (.iload_n 2, 1) := by decide +kernel
theorem dX3_takesCall_45 : decode cX3_takesCall 45 = .ok (.iload_n 1, 1) := by decide +kernel
theorem dX3_takesCall_46 : decode cX3_takesCall 46 = .ok (.if_icmp .eq 13, 3) := by decide +kernel
theorem dX3_takesCall_49 : decode cX3_takesCall 49 = .ok (.aload_n 0, 1) := by decide +kernel
theorem dX3_takesCall_50 : decode cX3_takesCall 50 = .ok (.getfield 9, 3) := by decide +kernel
theorem dX3_takesCall_53 : decode cX3_takesCall 53 = .ok (.iload_n 2, 1) := by decide +kernel
theorem dX3_takesCall_54 : decode cX3_takesCall 54 = .ok (.dup2, 1) := by decide +kernel
theorem dX3_takesCall_55 : decode cX3_takesCall 55 = .ok (.iaload, 1) := by decide +kernel
theorem dX3_takesCall_56 : decode cX3_takesCall 56 = .ok (.iconst 1, 1) := by decide +kernel
theorem dX3_takesCall_57 : decode cX3_takesCall 57 = .ok (.iadd, 1) := by decide +kernel
theorem dX3_takesCall_58 : decode cX3_takesCall 58 = .ok (.iastore, 1) := by decide +kernel
theorem dX3_takesCall_59 : decode cX3_takesCall 59 = .ok (.iconst 1, 1) := by decide +kernel
theorem dX3_takesCall_60 : decode cX3_takesCall 60 = .ok (.ireturn, 1) := by decide +kernel
theorem dX3_readIn_0 : decode cX3_readIn 0 = .ok (.iconst 0, 1) := by decide +kernel
theorem dX3_readIn_1 : decode cX3_readIn 1 = .ok (.istore 4, 2) := by decide +kernel
theorem dX3_readIn_3 : decode cX3_readIn 3 = .ok (.iconst 0, 1) := by decide +kernel
theorem dX3_readIn_4 : decode cX3_readIn 4 = .ok (.istore 5, 2) := by decide +kernel
theorem dX3_readIn_6 : decode cX3_readIn 6 = .ok (.iload 5, 2) := by decide +kernel
theorem dX3_readIn_8 : decode cX3_readIn 8 = .ok (.aload_n 0, 1) := by decide +kernel
theorem dX3_readIn_9 : decode cX3_readIn 9 = .ok (.getfield 15, 3) := by decide +kernel
theorem dX3_readIn_12 : decode cX3_readIn 12 = .ok (.getfield 19, 3) := by decide +kernel
theorem dX3_readIn_15 : decode cX3_readIn 15 = .ok (.if_icmp .ge 38, 3) := by decide +kernel
theorem dX3_readIn_18 : decode cX3_readIn 18 = .ok (.iload_n 3, 1) := by decide +kernel
theorem dX3_readIn_19 : decode cX3_readIn 19 = .ok (.iload 5, 2) := by decide +kernel
theorem dX3_readIn_21 : decode cX3_readIn 21 = .ok (.ishr, 1) := by decide +kernel
theorem dX3_readIn_22 : decode cX3_readIn 22 = .ok (.iconst 1, 1) := by decide +kernel
theorem dX3_readIn_23 : decode cX3_readIn 23 = .ok (.iand, 1) := by decide +kernel
theorem dX3_readIn_24 : decode cX3_readIn 24 = .ok (.iconst 1, 1) := by decide +kernel
theorem dX3_readIn_25 : decode cX3_readIn 25 = .ok (.if_icmp .ne 22, 3) := by decide +kernel
theorem dX3_readIn_28 : decode cX3_readIn 28 = .ok (.aload_n 1, 1) := by decide +kernel
theorem dX3_readIn_29 : decode cX3_readIn 29 = .ok (.iload 5, 2) := by decide +kernel
theorem dX3_readIn_31 : decode cX3_readIn 31 = .ok (.iload_n 2, 1) := by decide +kernel
theorem dX3_readIn_32 : decode cX3_readIn 32 = .ok (.invokevirtual 105, 3) := by decide +kernel
theorem dX3_readIn_35 : decode cX3_readIn 35 = .ok (.ifCond .eq 12, 3) := by decide +kernel
theorem dX3_readIn_38 : decode cX3_readIn 38 = .ok (.iload 4, 2) := by decide +kernel
theorem dX3_readIn_40 : decode cX3_readIn 40 = .ok (.iconst 1, 1) := by decide +kernel
theorem dX3_readIn_41 : decode cX3_readIn 41 = .ok (.iload 5, 2) := by decide +kernel
theorem dX3_readIn_43 : decode cX3_readIn 43 = .ok (.ishl, 1) := by decide +kernel
theorem dX3_readIn_44 : decode cX3_readIn 44 = .ok (.ior, 1) := by decide +kernel
theorem dX3_readIn_45 : decode cX3_readIn 45 = .ok (.istore 4, 2) := by decide +kernel
theorem dX3_readIn_47 : decode cX3_readIn 47 = .ok (.iinc 5 1, 3) := by decide +kernel
theorem dX3_readIn_50 : decode cX3_readIn 50 = .ok (.goto (-44), 3) := by decide +kernel
theorem dX3_readIn_53 : decode cX3_readIn 53 = .ok (.iload 4, 2) := by decide +kernel
theorem dX3_readIn_55 : decode cX3_readIn 55 = .ok (.ireturn, 1) := by decide +kernel
theorem dX3_earOf_0 : decode cX3_earOf 0 = .ok (.aload_n 0, 1) := by decide +kernel
theorem dX3_earOf_1 : decode cX3_earOf 1 = .ok (.getfield 15, 3) := by decide +kernel
theorem dX3_earOf_4 : decode cX3_earOf 4 = .ok (.getfield 108, 3) := by decide +kernel
theorem dX3_earOf_7 : decode cX3_earOf 7 = .ok (.invokevirtual 112, 3) := by decide +kernel
theorem dX3_earOf_10 : decode cX3_earOf 10 = .ok (.ifCond .ne 6, 3) := by decide +kernel
theorem dX3_earOf_13 : decode cX3_earOf 13 = .ok (.bipush 10, 2) := by decide +kernel
theorem dX3_earOf_15 : decode cX3_earOf 15 = .ok (.ireturn, 1) := by decide +kernel
theorem dX3_earOf_16 : decode cX3_earOf 16 = .ok (.aload_n 1, 1) := by decide +kernel
theorem dX3_earOf_17 : decode cX3_earOf 17 = .ok (.iload_n 2, 1) := by decide +kernel
theorem dX3_earOf_18 : decode cX3_earOf 18 = .ok (.invokevirtual 73, 3) := by decide +kernel
theorem dX3_earOf_21 : decode cX3_earOf 21 = .ok (.istore 4, 2) := by decide +kernel
theorem dX3_earOf_23 : decode cX3_earOf 23 = .ok (.aload_n 0, 1) := by decide +kernel
theorem dX3_earOf_24 : decode cX3_earOf 24 = .ok (.aload_n 1, 1) := by decide +kernel
theorem dX3_earOf_25 : decode cX3_earOf 25 = .ok (.iload 4, 2) := by decide +kernel
theorem dX3_earOf_27 : decode cX3_earOf 27 = .ok (.iload_n 3, 1) := by decide +kernel
theorem dX3_earOf_28 : decode cX3_earOf 28 = .ok (.invokevirtual 118, 3) := by decide +kernel
theorem dX3_earOf_31 : decode cX3_earOf 31 = .ok (.invokestatic 122, 3) := by decide +kernel
theorem dX3_earOf_34 : decode cX3_earOf 34 = .ok (.istore 5, 2) := by decide +kernel
theorem dX3_earOf_36 : decode cX3_earOf 36 = .ok (.aload_n 0, 1) := by decide +kernel
theorem dX3_earOf_37 : decode cX3_earOf 37 = .ok (.aload_n 1, 1) := by decide +kernel
theorem dX3_earOf_38 : decode cX3_earOf 38 = .ok (.iload 4, 2) := by decide +kernel
theorem dX3_earOf_40 : decode cX3_earOf 40 = .ok (.iload 4, 2) := by decide +kernel
theorem dX3_earOf_42 : decode cX3_earOf 42 = .ok (.invokevirtual 127, 3) := by decide +kernel
theorem dX3_earOf_45 : decode cX3_earOf 45 = .ok (.invokestatic 122, 3) := by decide +kernel
theorem dX3_earOf_48 : decode cX3_earOf 48 = .ok (.istore 6, 2) := by decide +kernel
theorem dX3_earOf_50 : decode cX3_earOf 50 = .ok (.iload 4, 2) := by decide +kernel
theorem dX3_earOf_52 : decode cX3_earOf 52 = .ok (.aload_n 0, 1) := by decide +kernel
theorem dX3_earOf_53 : decode cX3_earOf 53 = .ok (.getfield 15, 3) := by decide +kernel
theorem dX3_earOf_56 : decode cX3_earOf 56 = .ok (.getfield 130, 3) := by decide +kernel
theorem dX3_earOf_59 : decode cX3_earOf 59 = .ok (.iload_n 2, 1) := by decide +kernel
theorem dX3_earOf_60 : decode cX3_earOf 60 = .ok (.iaload, 1) := by decide +kernel
theorem dX3_earOf_61 : decode cX3_earOf 61 = .ok (.if_icmp .ne 7, 3) := by decide +kernel
theorem dX3_earOf_64 : decode cX3_earOf 64 = .ok (.iconst 1, 1) := by decide +kernel
theorem dX3_earOf_65 : decode cX3_earOf 65 = .ok (.goto 4, 3) := by decide +kernel
theorem dX3_earOf_68 : decode cX3_earOf 68 = .ok (.iconst 0, 1) := by decide +kernel
theorem dX3_earOf_69 : decode cX3_earOf 69 = .ok (.istore 7, 2) := by decide +kernel
theorem dX3_earOf_71 : decode cX3_earOf 71 = .ok (.aload_n 0, 1) := by decide +kernel
theorem dX3_earOf_72 : decode cX3_earOf 72 = .ok (.getfield 15, 3) := by decide +kernel
theorem dX3_earOf_75 : decode cX3_earOf 75 = .ok (.getfield 108, 3) := by decide +kernel
theorem dX3_earOf_78 : decode cX3_earOf 78 = .ok (.aload_n 1, 1) := by decide +kernel
theorem dX3_earOf_79 : decode cX3_earOf 79 = .ok (.invokevirtual 76, 3) := by decide +kernel
theorem dX3_earOf_82 : decode cX3_earOf 82 = .ok (.iload 5, 2) := by decide +kernel
theorem dX3_earOf_84 : decode cX3_earOf 84 = .ok (.iload 6, 2) := by decide +kernel
theorem dX3_earOf_86 : decode cX3_earOf 86 = .ok (.iload 7, 2) := by decide +kernel
theorem dX3_earOf_88 : decode cX3_earOf 88 = .ok (.invokevirtual 133, 3) := by decide +kernel
theorem dX3_earOf_91 : decode cX3_earOf 91 = .ok (.istore 8, 2) := by decide +kernel
theorem dX3_earOf_93 : decode cX3_earOf 93 = .ok (.iconst 0, 1) := by decide +kernel
theorem dX3_earOf_94 : decode cX3_earOf 94 = .ok (.bipush 10, 2) := by decide +kernel
theorem dX3_earOf_96 : decode cX3_earOf 96 = .ok (.iload 8, 2) := by decide +kernel
theorem dX3_earOf_98 : decode cX3_earOf 98 = .ok (.invokestatic 137, 3) := by decide +kernel
theorem dX3_earOf_101 : decode cX3_earOf 101 = .ok (.invokestatic 143, 3) := by decide +kernel
theorem dX3_earOf_104 : decode cX3_earOf 104 = .ok (.ireturn, 1) := by decide +kernel
theorem dX3_hearersOf_0 : decode cX3_hearersOf 0 = .ok (.aload_n 0, 1) := by decide +kernel
theorem dX3_hearersOf_1 : decode cX3_hearersOf 1 = .ok (.aload_n 1, 1) := by decide +kernel
theorem dX3_hearersOf_2 : decode cX3_hearersOf 2 = .ok (.iload_n 2, 1) := by decide +kernel
theorem dX3_hearersOf_3 : decode cX3_hearersOf 3 = .ok (.invokevirtual 146, 3) := by decide +kernel
theorem dX3_hearersOf_6 : decode cX3_hearersOf 6 = .ok (.aload_n 0, 1) := by decide +kernel
theorem dX3_hearersOf_7 : decode cX3_hearersOf 7 = .ok (.aload_n 1, 1) := by decide +kernel
theorem dX3_hearersOf_8 : decode cX3_hearersOf 8 = .ok (.aload_n 1, 1) := by decide +kernel
theorem dX3_hearersOf_9 : decode cX3_hearersOf 9 = .ok (.iload_n 2, 1) := by decide +kernel
theorem dX3_hearersOf_10 : decode cX3_hearersOf 10 = .ok (.invokevirtual 93, 3) := by decide +kernel
theorem dX3_hearersOf_13 : decode cX3_hearersOf 13 = .ok (.aload_n 1, 1) := by decide +kernel
theorem dX3_hearersOf_14 : decode cX3_hearersOf 14 = .ok (.iload_n 2, 1) := by decide +kernel
theorem dX3_hearersOf_15 : decode cX3_hearersOf 15 = .ok (.invokevirtual 96, 3) := by decide +kernel
theorem dX3_hearersOf_18 : decode cX3_hearersOf 18 = .ok (.invokevirtual 127, 3) := by decide +kernel
theorem dX3_hearersOf_21 : decode cX3_hearersOf 21 = .ok (.iand, 1) := by decide +kernel
theorem dX3_hearersOf_22 : decode cX3_hearersOf 22 = .ok (.istore_n 3, 1) := by decide +kernel
theorem dX3_hearersOf_23 : decode cX3_hearersOf 23 = .ok (.aload_n 0, 1) := by decide +kernel
theorem dX3_hearersOf_24 : decode cX3_hearersOf 24 = .ok (.aload_n 1, 1) := by decide +kernel
theorem dX3_hearersOf_25 : decode cX3_hearersOf 25 = .ok (.invokevirtual 149, 3) := by decide +kernel
theorem dX3_hearersOf_28 : decode cX3_hearersOf 28 = .ok (.istore 4, 2) := by decide +kernel
theorem dX3_hearersOf_30 : decode cX3_hearersOf 30 = .ok (.iconst 0, 1) := by decide +kernel
theorem dX3_hearersOf_31 : decode cX3_hearersOf 31 = .ok (.istore 5, 2) := by decide +kernel
theorem dX3_hearersOf_33 : decode cX3_hearersOf 33 = .ok (.iconst 0, 1) := by decide +kernel
theorem dX3_hearersOf_34 : decode cX3_hearersOf 34 = .ok (.istore 6, 2) := by decide +kernel
theorem dX3_hearersOf_36 : decode cX3_hearersOf 36 = .ok (.iload 6, 2) := by decide +kernel
theorem dX3_hearersOf_38 : decode cX3_hearersOf 38 = .ok (.aload_n 0, 1) := by decide +kernel
theorem dX3_hearersOf_39 : decode cX3_hearersOf 39 = .ok (.getfield 15, 3) := by decide +kernel
theorem dX3_hearersOf_42 : decode cX3_hearersOf 42 = .ok (.getfield 64, 3) := by decide +kernel
theorem dX3_hearersOf_45 : decode cX3_hearersOf 45 = .ok (.if_icmp .ge 40, 3) := by decide +kernel
theorem dX3_hearersOf_48 : decode cX3_hearersOf 48 = .ok (.iload_n 3, 1) := by decide +kernel
theorem dX3_hearersOf_49 : decode cX3_hearersOf 49 = .ok (.iload 6, 2) := by decide +kernel
theorem dX3_hearersOf_51 : decode cX3_hearersOf 51 = .ok (.ishr, 1) := by decide +kernel
theorem dX3_hearersOf_52 : decode cX3_hearersOf 52 = .ok (.iconst 1, 1) := by decide +kernel
theorem dX3_hearersOf_53 : decode cX3_hearersOf 53 = .ok (.iand, 1) := by decide +kernel
theorem dX3_hearersOf_54 : decode cX3_hearersOf 54 = .ok (.iconst 1, 1) := by decide +kernel
theorem dX3_hearersOf_55 : decode cX3_hearersOf 55 = .ok (.if_icmp .ne 24, 3) := by decide +kernel
theorem dX3_hearersOf_58 : decode cX3_hearersOf 58 = .ok (.aload_n 0, 1) := by decide +kernel
theorem dX3_hearersOf_59 : decode cX3_hearersOf 59 = .ok (.aload_n 1, 1) := by decide +kernel
theorem dX3_hearersOf_60 : decode cX3_hearersOf 60 = .ok (.iload 6, 2) := by decide +kernel
theorem dX3_hearersOf_62 : decode cX3_hearersOf 62 = .ok (.iload 4, 2) := by decide +kernel
theorem dX3_hearersOf_64 : decode cX3_hearersOf 64 = .ok (.invokevirtual 153, 3) := by decide +kernel
theorem dX3_hearersOf_67 : decode cX3_hearersOf 67 = .ok (.ifCond .le 12, 3) := by decide +kernel
theorem dX3_hearersOf_70 : decode cX3_hearersOf 70 = .ok (.iload 5, 2) := by decide +kernel
theorem dX3_hearersOf_72 : decode cX3_hearersOf 72 = .ok (.iconst 1, 1) := by decide +kernel
theorem dX3_hearersOf_73 : decode cX3_hearersOf 73 = .ok (.iload 6, 2) := by decide +kernel
theorem dX3_hearersOf_75 : decode cX3_hearersOf 75 = .ok (.ishl, 1) := by decide +kernel
theorem dX3_hearersOf_76 : decode cX3_hearersOf 76 = .ok (.ior, 1) := by decide +kernel
theorem dX3_hearersOf_77 : decode cX3_hearersOf 77 = .ok (.istore 5, 2) := by decide +kernel
theorem dX3_hearersOf_79 : decode cX3_hearersOf 79 = .ok (.iinc 6 1, 3) := by decide +kernel
theorem dX3_hearersOf_82 : decode cX3_hearersOf 82 = .ok (.goto (-46), 3) := by decide +kernel
theorem dX3_hearersOf_85 : decode cX3_hearersOf 85 = .ok (.iload 5, 2) := by decide +kernel
theorem dX3_hearersOf_87 : decode cX3_hearersOf 87 = .ok (.ireturn, 1) := by decide +kernel
theorem dX3_quietOf_0 : decode cX3_quietOf 0 = .ok (.aload_n 0, 1) := by decide +kernel
theorem dX3_quietOf_1 : decode cX3_quietOf 1 = .ok (.aload_n 1, 1) := by decide +kernel
theorem dX3_quietOf_2 : decode cX3_quietOf 2 = .ok (.iload_n 2, 1) := by decide +kernel
theorem dX3_quietOf_3 : decode cX3_quietOf 3 = .ok (.invokevirtual 146, 3) := by decide +kernel
theorem dX3_quietOf_6 : decode cX3_quietOf 6 = .ok (.aload_n 0, 1) := by decide +kernel
theorem dX3_quietOf_7 : decode cX3_quietOf 7 = .ok (.aload_n 1, 1) := by decide +kernel
theorem dX3_quietOf_8 : decode cX3_quietOf 8 = .ok (.iload_n 3, 1) := by decide +kernel
theorem dX3_quietOf_9 : decode cX3_quietOf 9 = .ok (.iload 4, 2) := by decide +kernel
theorem dX3_quietOf_11 : decode cX3_quietOf 11 = .ok (.invokevirtual 127, 3) := by decide +kernel
theorem dX3_quietOf_14 : decode cX3_quietOf 14 = .ok (.iand, 1) := by decide +kernel
theorem dX3_quietOf_15 : decode cX3_quietOf 15 = .ok (.istore 5, 2) := by decide +kernel
theorem dX3_quietOf_17 : decode cX3_quietOf 17 = .ok (.aload_n 0, 1) := by decide +kernel
theorem dX3_quietOf_18 : decode cX3_quietOf 18 = .ok (.aload_n 1, 1) := by decide +kernel
theorem dX3_quietOf_19 : decode cX3_quietOf 19 = .ok (.invokevirtual 149, 3) := by decide +kernel
theorem dX3_quietOf_22 : decode cX3_quietOf 22 = .ok (.istore 6, 2) := by decide +kernel
theorem dX3_quietOf_24 : decode cX3_quietOf 24 = .ok (.ldc 156, 2) := by decide +kernel
theorem dX3_quietOf_26 : decode cX3_quietOf 26 = .ok (.istore 7, 2) := by decide +kernel
theorem dX3_quietOf_28 : decode cX3_quietOf 28 = .ok (.iconst 0, 1) := by decide +kernel
theorem dX3_quietOf_29 : decode cX3_quietOf 29 = .ok (.istore 8, 2) := by decide +kernel
theorem dX3_quietOf_31 : decode cX3_quietOf 31 = .ok (.iload 8, 2) := by decide +kernel
theorem dX3_quietOf_33 : decode cX3_quietOf 33 = .ok (.aload_n 0, 1) := by decide +kernel
theorem dX3_quietOf_34 : decode cX3_quietOf 34 = .ok (.getfield 15, 3) := by decide +kernel
theorem dX3_quietOf_37 : decode cX3_quietOf 37 = .ok (.getfield 64, 3) := by decide +kernel
theorem dX3_quietOf_40 : decode cX3_quietOf 40 = .ok (.if_icmp .ge 40, 3) := by decide +kernel
theorem dX3_quietOf_43 : decode cX3_quietOf 43 = .ok (.iload 5, 2) := by decide +kernel
theorem dX3_quietOf_45 : decode cX3_quietOf 45 = .ok (.iload 8, 2) := by decide +kernel
theorem dX3_quietOf_47 : decode cX3_quietOf 47 = .ok (.ishr, 1) := by decide +kernel
theorem dX3_quietOf_48 : decode cX3_quietOf 48 = .ok (.iconst 1, 1) := by decide +kernel
theorem dX3_quietOf_49 : decode cX3_quietOf 49 = .ok (.iand, 1) := by decide +kernel
theorem dX3_quietOf_50 : decode cX3_quietOf 50 = .ok (.iconst 1, 1) := by decide +kernel
theorem dX3_quietOf_51 : decode cX3_quietOf 51 = .ok (.if_icmp .ne 23, 3) := by decide +kernel
theorem dX3_quietOf_54 : decode cX3_quietOf 54 = .ok (.iload 7, 2) := by decide +kernel
theorem dX3_quietOf_56 : decode cX3_quietOf 56 = .ok (.bipush 10, 2) := by decide +kernel
theorem dX3_quietOf_58 : decode cX3_quietOf 58 = .ok (.idiv, 1) := by decide +kernel
theorem dX3_quietOf_59 : decode cX3_quietOf 59 = .ok (.bipush 10, 2) := by decide +kernel
theorem dX3_quietOf_61 : decode cX3_quietOf 61 = .ok (.aload_n 0, 1) := by decide +kernel
theorem dX3_quietOf_62 : decode cX3_quietOf 62 = .ok (.aload_n 1, 1) := by decide +kernel
theorem dX3_quietOf_63 : decode cX3_quietOf 63 = .ok (.iload 8, 2) := by decide +kernel
theorem dX3_quietOf_65 : decode cX3_quietOf 65 = .ok (.iload 6, 2) := by decide +kernel
theorem dX3_quietOf_67 : decode cX3_quietOf 67 = .ok (.invokevirtual 153, 3) := by decide +kernel
theorem dX3_quietOf_70 : decode cX3_quietOf 70 = .ok (.isub, 1) := by decide +kernel
theorem dX3_quietOf_71 : decode cX3_quietOf 71 = .ok (.imul, 1) := by decide +kernel
theorem dX3_quietOf_72 : decode cX3_quietOf 72 = .ok (.istore 7, 2) := by decide +kernel
theorem dX3_quietOf_74 : decode cX3_quietOf 74 = .ok (.iinc 8 1, 3) := by decide +kernel
theorem dX3_quietOf_77 : decode cX3_quietOf 77 = .ok (.goto (-46), 3) := by decide +kernel
theorem dX3_quietOf_80 : decode cX3_quietOf 80 = .ok (.iload 7, 2) := by decide +kernel
theorem dX3_quietOf_82 : decode cX3_quietOf 82 = .ok (.ireturn, 1) := by decide +kernel
theorem dX3_keepSunday_0 : decode cX3_keepSunday 0 = .ok (.aload_n 0, 1) := by decide +kernel
theorem dX3_keepSunday_1 : decode cX3_keepSunday 1 = .ok (.aload_n 1, 1) := by decide +kernel
theorem dX3_keepSunday_2 : decode cX3_keepSunday 2 = .ok (.invokevirtual 149, 3) := by decide +kernel
theorem dX3_keepSunday_5 : decode cX3_keepSunday 5 = .ok (.istore_n 2, 1) := by decide +kernel
theorem dX3_keepSunday_6 : decode cX3_keepSunday 6 = .ok (.iconst 0, 1) := by decide +kernel
theorem dX3_keepSunday_7 : decode cX3_keepSunday 7 = .ok (.istore_n 3, 1) := by decide +kernel
theorem dX3_keepSunday_8 : decode cX3_keepSunday 8 = .ok (.iconst 0, 1) := by decide +kernel
theorem dX3_keepSunday_9 : decode cX3_keepSunday 9 = .ok (.istore 4, 2) := by decide +kernel
theorem dX3_keepSunday_11 : decode cX3_keepSunday 11 = .ok (.iload 4, 2) := by decide +kernel
theorem dX3_keepSunday_13 : decode cX3_keepSunday 13 = .ok (.aload_n 0, 1) := by decide +kernel
theorem dX3_keepSunday_14 : decode cX3_keepSunday 14 = .ok (.getfield 15, 3) := by decide +kernel
theorem dX3_keepSunday_17 : decode cX3_keepSunday 17 = .ok (.getfield 19, 3) := by decide +kernel
theorem dX3_keepSunday_20 : decode cX3_keepSunday 20 = .ok (.if_icmp .ge 37, 3) := by decide +kernel
theorem dX3_keepSunday_23 : decode cX3_keepSunday 23 = .ok (.iload_n 2, 1) := by decide +kernel
theorem dX3_keepSunday_24 : decode cX3_keepSunday 24 = .ok (.iload 4, 2) := by decide +kernel
theorem dX3_keepSunday_26 : decode cX3_keepSunday 26 = .ok (.ishr, 1) := by decide +kernel
theorem dX3_keepSunday_27 : decode cX3_keepSunday 27 = .ok (.iconst 1, 1) := by decide +kernel
theorem dX3_keepSunday_28 : decode cX3_keepSunday 28 = .ok (.iand, 1) := by decide +kernel
theorem dX3_keepSunday_29 : decode cX3_keepSunday 29 = .ok (.iconst 1, 1) := by decide +kernel
theorem dX3_keepSunday_30 : decode cX3_keepSunday 30 = .ok (.if_icmp .ne 21, 3) := by decide +kernel
theorem dX3_keepSunday_33 : decode cX3_keepSunday 33 = .ok (.aload_n 0, 1) := by decide +kernel
theorem dX3_keepSunday_34 : decode cX3_keepSunday 34 = .ok (.aload_n 1, 1) := by decide +kernel
theorem dX3_keepSunday_35 : decode cX3_keepSunday 35 = .ok (.iload 4, 2) := by decide +kernel
theorem dX3_keepSunday_37 : decode cX3_keepSunday 37 = .ok (.iload_n 2, 1) := by decide +kernel
theorem dX3_keepSunday_38 : decode cX3_keepSunday 38 = .ok (.invokevirtual 157, 3) := by decide +kernel
theorem dX3_keepSunday_41 : decode cX3_keepSunday 41 = .ok (.ifCond .eq 10, 3) := by decide +kernel
theorem dX3_keepSunday_44 : decode cX3_keepSunday 44 = .ok (.iload_n 3, 1) := by decide +kernel
theorem dX3_keepSunday_45 : decode cX3_keepSunday 45 = .ok (.iconst 1, 1) := by decide +kernel
theorem dX3_keepSunday_46 : decode cX3_keepSunday 46 = .ok (.iload 4, 2) := by decide +kernel
theorem dX3_keepSunday_48 : decode cX3_keepSunday 48 = .ok (.ishl, 1) := by decide +kernel
theorem dX3_keepSunday_49 : decode cX3_keepSunday 49 = .ok (.ior, 1) := by decide +kernel
theorem dX3_keepSunday_50 : decode cX3_keepSunday 50 = .ok (.istore_n 3, 1) := by decide +kernel
theorem dX3_keepSunday_51 : decode cX3_keepSunday 51 = .ok (.iinc 4 1, 3) := by decide +kernel
theorem dX3_keepSunday_54 : decode cX3_keepSunday 54 = .ok (.goto (-43), 3) := by decide +kernel
theorem dX3_keepSunday_57 : decode cX3_keepSunday 57 = .ok (.aload_n 1, 1) := by decide +kernel
theorem dX3_keepSunday_58 : decode cX3_keepSunday 58 = .ok (.invokevirtual 161, 3) := by decide +kernel
theorem dX3_keepSunday_61 : decode cX3_keepSunday 61 = .ok (.iload_n 3, 1) := by decide +kernel
theorem dX3_keepSunday_62 : decode cX3_keepSunday 62 = .ok (.ireturn, 1) := by decide +kernel
theorem dX3_isWedWhenRead_0 : decode cX3_isWedWhenRead 0 = .ok (.aload_n 0, 1) := by decide +kernel
theorem dX3_isWedWhenRead_1 : decode cX3_isWedWhenRead 1 = .ok (.aload_n 1, 1) := by decide +kernel
theorem dX3_isWedWhenRead_2 : decode cX3_isWedWhenRead 2 = .ok (.iload_n 2, 1) := by decide +kernel
theorem dX3_isWedWhenRead_3 : decode cX3_isWedWhenRead 3 = .ok (.iload_n 3, 1) := by decide +kernel
theorem dX3_isWedWhenRead_4 : decode cX3_isWedWhenRead 4 = .ok (.invokevirtual 164, 3) := by decide +kernel
theorem dX3_isWedWhenRead_7 : decode cX3_isWedWhenRead 7 = .ok (.ifCond .eq 11, 3) := by decide +kernel
theorem dX3_isWedWhenRead_10 : decode cX3_isWedWhenRead 10 = .ok (.aload_n 1, 1) := by decide +kernel
theorem dX3_isWedWhenRead_11 : decode cX3_isWedWhenRead 11 = .ok (.iload_n 2, 1) := by decide +kernel
theorem dX3_isWedWhenRead_12 : decode cX3_isWedWhenRead 12 = .ok (.iconst 2, 1) := by decide +kernel
theorem dX3_isWedWhenRead_13 : decode cX3_isWedWhenRead 13 = .ok (.invokevirtual 167, 3) := by decide +kernel
theorem dX3_isWedWhenRead_16 : decode cX3_isWedWhenRead 16 = .ok (.iconst 0, 1) := by decide +kernel
theorem dX3_isWedWhenRead_17 : decode cX3_isWedWhenRead 17 = .ok (.ireturn, 1) := by decide +kernel
theorem dX3_isWedWhenRead_18 : decode cX3_isWedWhenRead 18 = .ok (.aload_n 1, 1) := by decide +kernel
theorem dX3_isWedWhenRead_19 : decode cX3_isWedWhenRead 19 = .ok (.iload_n 2, 1) := by decide +kernel
theorem dX3_isWedWhenRead_20 : decode cX3_isWedWhenRead 20 = .ok (.invokevirtual 171, 3) := by decide +kernel
theorem dX3_isWedWhenRead_23 : decode cX3_isWedWhenRead 23 = .ok (.aload_n 1, 1) := by decide +kernel
theorem dX3_isWedWhenRead_24 : decode cX3_isWedWhenRead 24 = .ok (.iload_n 2, 1) := by decide +kernel
theorem dX3_isWedWhenRead_25 : decode cX3_isWedWhenRead 25 = .ok (.invokevirtual 175, 3) := by decide +kernel
theorem dX3_isWedWhenRead_28 : decode cX3_isWedWhenRead 28 = .ok (.iconst 3, 1) := by decide +kernel
theorem dX3_isWedWhenRead_29 : decode cX3_isWedWhenRead 29 = .ok (.if_icmp .lt 21, 3) := by decide +kernel
theorem dX3_isWedWhenRead_32 : decode cX3_isWedWhenRead 32 = .ok (.aload_n 0, 1) := by decide +kernel
theorem dX3_isWedWhenRead_33 : decode cX3_isWedWhenRead 33 = .ok (.aload_n 1, 1) := by decide +kernel
theorem dX3_isWedWhenRead_34 : decode cX3_isWedWhenRead 34 = .ok (.iload_n 2, 1) := by decide +kernel
theorem dX3_isWedWhenRead_35 : decode cX3_isWedWhenRead 35 = .ok (.invokevirtual 60, 3) := by decide +kernel
theorem dX3_isWedWhenRead_38 : decode cX3_isWedWhenRead 38 = .ok (.aload_n 0, 1) := by decide +kernel
theorem dX3_isWedWhenRead_39 : decode cX3_isWedWhenRead 39 = .ok (.getfield 15, 3) := by decide +kernel
theorem dX3_isWedWhenRead_42 : decode cX3_isWedWhenRead 42 = .ok (.iload_n 2, 1) := by decide +kernel
theorem dX3_isWedWhenRead_43 : decode cX3_isWedWhenRead 43 = .ok (.invokevirtual 37, 3) := by decide +kernel
theorem dX3_isWedWhenRead_46 : decode cX3_isWedWhenRead 46 = .ok (.iand, 1) := by decide +kernel
theorem dX3_isWedWhenRead_47 : decode cX3_isWedWhenRead 47 = .ok (.ifCond .eq 5, 3) := by decide +kernel
theorem dX3_isWedWhenRead_50 : decode cX3_isWedWhenRead 50 = .ok (.iconst 0, 1) := by decide +kernel
theorem dX3_isWedWhenRead_51 : decode cX3_isWedWhenRead 51 = .ok (.ireturn, 1) := by decide +kernel
theorem dX3_isWedWhenRead_52 : decode cX3_isWedWhenRead 52 = .ok (.aload_n 1, 1) := by decide +kernel
theorem dX3_isWedWhenRead_53 : decode cX3_isWedWhenRead 53 = .ok (.iload_n 2, 1) := by decide +kernel
theorem dX3_isWedWhenRead_54 : decode cX3_isWedWhenRead 54 = .ok (.iconst 1, 1) := by decide +kernel
theorem dX3_isWedWhenRead_55 : decode cX3_isWedWhenRead 55 = .ok (.invokevirtual 167, 3) := by decide +kernel
theorem dX3_isWedWhenRead_58 : decode cX3_isWedWhenRead 58 = .ok (.iconst 1, 1) := by decide +kernel
theorem dX3_isWedWhenRead_59 : decode cX3_isWedWhenRead 59 = .ok (.ireturn, 1) := by decide +kernel
theorem dX3_isRisenAgainst_0 : decode cX3_isRisenAgainst 0 = .ok (.aload_n 0, 1) := by decide +kernel
theorem dX3_isRisenAgainst_1 : decode cX3_isRisenAgainst 1 = .ok (.aload_n 1, 1) := by decide +kernel
theorem dX3_isRisenAgainst_2 : decode cX3_isRisenAgainst 2 = .ok (.iload_n 2, 1) := by decide +kernel
theorem dX3_isRisenAgainst_3 : decode cX3_isRisenAgainst 3 = .ok (.invokevirtual 146, 3) := by decide +kernel
theorem dX3_isRisenAgainst_6 : decode cX3_isRisenAgainst 6 = .ok (.aload_n 0, 1) := by decide +kernel
theorem dX3_isRisenAgainst_7 : decode cX3_isRisenAgainst 7 = .ok (.aload_n 1, 1) := by decide +kernel
theorem dX3_isRisenAgainst_8 : decode cX3_isRisenAgainst 8 = .ok (.aload_n 1, 1) := by decide +kernel
theorem dX3_isRisenAgainst_9 : decode cX3_isRisenAgainst 9 = .ok (.iload_n 2, 1) := by decide +kernel
theorem dX3_isRisenAgainst_10 : decode cX3_isRisenAgainst 10 = .ok (.invokevirtual 93, 3) := by decide +kernel
theorem dX3_isRisenAgainst_13 : decode cX3_isRisenAgainst 13 = .ok (.aload_n 1, 1) := by decide +kernel
theorem dX3_isRisenAgainst_14 : decode cX3_isRisenAgainst 14 = .ok (.iload_n 2, 1) := by decide +kernel
theorem dX3_isRisenAgainst_15 : decode cX3_isRisenAgainst 15 = .ok (.invokevirtual 96, 3) := by decide +kernel
theorem dX3_isRisenAgainst_18 : decode cX3_isRisenAgainst 18 = .ok (.invokevirtual 127, 3) := by decide +kernel
theorem dX3_isRisenAgainst_21 : decode cX3_isRisenAgainst 21 = .ok (.iand, 1) := by decide +kernel
theorem dX3_isRisenAgainst_22 : decode cX3_isRisenAgainst 22 = .ok (.istore 4, 2) := by decide +kernel
theorem dX3_isRisenAgainst_24 : decode cX3_isRisenAgainst 24 = .ok (.iconst 0, 1) := by decide +kernel
theorem dX3_isRisenAgainst_25 : decode cX3_isRisenAgainst 25 = .ok (.istore 5, 2) := by decide +kernel
theorem dX3_isRisenAgainst_27 : decode cX3_isRisenAgainst 27 = .ok (.iload 5, 2) := by decide +kernel
theorem dX3_isRisenAgainst_29 : decode cX3_isRisenAgainst 29 = .ok (.aload_n 0, 1) := by decide +kernel
theorem dX3_isRisenAgainst_30 : decode cX3_isRisenAgainst 30 = .ok (.getfield 15, 3) := by decide +kernel
theorem dX3_isRisenAgainst_33 : decode cX3_isRisenAgainst 33 = .ok (.getfield 64, 3) := by decide +kernel
theorem dX3_isRisenAgainst_36 : decode cX3_isRisenAgainst 36 = .ok (.if_icmp .ge 37, 3) := by decide +kernel
theorem dX3_isRisenAgainst_39 : decode cX3_isRisenAgainst 39 = .ok (.iload 4, 2) := by decide +kernel
theorem dX3_isRisenAgainst_41 : decode cX3_isRisenAgainst 41 = .ok (.iload 5, 2) := by decide +kernel
theorem dX3_isRisenAgainst_43 : decode cX3_isRisenAgainst 43 = .ok (.ishr, 1) := by decide +kernel
theorem dX3_isRisenAgainst_44 : decode cX3_isRisenAgainst 44 = .ok (.iconst 1, 1) := by decide +kernel
theorem dX3_isRisenAgainst_45 : decode cX3_isRisenAgainst 45 = .ok (.iand, 1) := by decide +kernel
theorem dX3_isRisenAgainst_46 : decode cX3_isRisenAgainst 46 = .ok (.iconst 1, 1) := by decide +kernel
theorem dX3_isRisenAgainst_47 : decode cX3_isRisenAgainst 47 = .ok (.if_icmp .ne 20, 3) := by decide +kernel
theorem dX3_isRisenAgainst_50 : decode cX3_isRisenAgainst 50 = .ok (.aload_n 1, 1) := by decide +kernel
theorem dX3_isRisenAgainst_51 : decode cX3_isRisenAgainst 51 = .ok (.invokevirtual 178, 3) := by decide +kernel
theorem dX3_isRisenAgainst_54 : decode cX3_isRisenAgainst 54 = .ok (.aload_n 0, 1) := by decide +kernel
theorem dX3_isRisenAgainst_55 : decode cX3_isRisenAgainst 55 = .ok (.aload_n 1, 1) := by decide +kernel
theorem dX3_isRisenAgainst_56 : decode cX3_isRisenAgainst 56 = .ok (.iload 5, 2) := by decide +kernel
theorem dX3_isRisenAgainst_58 : decode cX3_isRisenAgainst 58 = .ok (.iload_n 3, 1) := by decide +kernel
theorem dX3_isRisenAgainst_59 : decode cX3_isRisenAgainst 59 = .ok (.invokevirtual 153, 3) := by decide +kernel
theorem dX3_isRisenAgainst_62 : decode cX3_isRisenAgainst 62 = .ok (.if_icmp .ge 5, 3) := by decide +kernel
theorem dX3_isRisenAgainst_65 : decode cX3_isRisenAgainst 65 = .ok (.iconst 1, 1) := by decide +kernel
theorem dX3_isRisenAgainst_66 : decode cX3_isRisenAgainst 66 = .ok (.ireturn, 1) := by decide +kernel
theorem dX3_isRisenAgainst_67 : decode cX3_isRisenAgainst 67 = .ok (.iinc 5 1, 3) := by decide +kernel
theorem dX3_isRisenAgainst_70 : decode cX3_isRisenAgainst 70 = .ok (.goto (-43), 3) := by decide +kernel
theorem dX3_isRisenAgainst_73 : decode cX3_isRisenAgainst 73 = .ok (.iconst 0, 1) := by decide +kernel
theorem dX3_isRisenAgainst_74 : decode cX3_isRisenAgainst 74 = .ok (.ireturn, 1) := by decide +kernel
theorem dX4_init_0 : decode cX4_init 0 = .ok (.aload_n 0, 1) := by decide +kernel
theorem dX4_init_1 : decode cX4_init 1 = .ok (.invokespecial 3, 3) := by decide +kernel
theorem dX4_init_4 : decode cX4_init 4 = .ok (.aload_n 0, 1) := by decide +kernel
theorem dX4_init_5 : decode cX4_init 5 = .ok (.iconst (-1), 1) := by decide +kernel
theorem dX4_init_6 : decode cX4_init 6 = .ok (.putfield 9, 3) := by decide +kernel
theorem dX4_init_9 : decode cX4_init 9 = .ok (.aload_n 0, 1) := by decide +kernel
theorem dX4_init_10 : decode cX4_init 10 = .ok (.aload_n 1, 1) := by decide +kernel
theorem dX4_init_11 : decode cX4_init 11 = .ok (.putfield 15, 3) := by decide +kernel
theorem dX4_init_14 : decode cX4_init 14 = .ok (.aload_n 0, 1) := by decide +kernel
theorem dX4_init_15 : decode cX4_init 15 = .ok (.aload_n 2, 1) := by decide +kernel
theorem dX4_init_16 : decode cX4_init 16 = .ok (.putfield 19, 3) := by decide +kernel
theorem dX4_init_19 : decode cX4_init 19 = .ok (.return_, 1) := by decide +kernel
theorem dX4_begin_0 : decode cX4_begin 0 = .ok (.aload_n 0, 1) := by decide +kernel
theorem dX4_begin_1 : decode cX4_begin 1 = .ok (.aload_n 1, 1) := by decide +kernel
theorem dX4_begin_2 : decode cX4_begin 2 = .ok (.putfield 19, 3) := by decide +kernel
theorem dX4_begin_5 : decode cX4_begin 5 = .ok (.aload_n 0, 1) := by decide +kernel
theorem dX4_begin_6 : decode cX4_begin 6 = .ok (.getfield 19, 3) := by decide +kernel
theorem dX4_begin_9 : decode cX4_begin 9 = .ok (.invokevirtual 23, 3) := by decide +kernel
theorem dX4_begin_12 : decode cX4_begin 12 = .ok (.aload_n 0, 1) := by decide +kernel
theorem dX4_begin_13 : decode cX4_begin 13 = .ok (.iconst 0, 1) := by decide +kernel
theorem dX4_begin_14 : decode cX4_begin 14 = .ok (.putfield 28, 3) := by decide +kernel
theorem dX4_begin_17 : decode cX4_begin 17 = .ok (.aload_n 0, 1) := by decide +kernel
theorem dX4_begin_18 : decode cX4_begin 18 = .ok (.iconst 0, 1) := by decide +kernel
theorem dX4_begin_19 : decode cX4_begin 19 = .ok (.putfield 31, 3) := by decide +kernel
theorem dX4_begin_22 : decode cX4_begin 22 = .ok (.aload_n 0, 1) := by decide +kernel
theorem dX4_begin_23 : decode cX4_begin 23 = .ok (.iconst (-1), 1) := by decide +kernel
theorem dX4_begin_24 : decode cX4_begin 24 = .ok (.putfield 9, 3) := by decide +kernel
theorem dX4_begin_27 : decode cX4_begin 27 = .ok (.aload_n 0, 1) := by decide +kernel
theorem dX4_begin_28 : decode cX4_begin 28 = .ok (.getfield 15, 3) := by decide +kernel
theorem dX4_begin_31 : decode cX4_begin 31 = .ok (.invokevirtual 34, 3) := by decide +kernel
theorem dX4_begin_34 : decode cX4_begin 34 = .ok (.return_, 1) := by decide +kernel
theorem dX4_readsLine_0 : decode cX4_readsLine 0 = .ok (.aload_n 0, 1) := by decide +kernel
theorem dX4_readsLine_1 : decode cX4_readsLine 1 = .ok (.getfield 15, 3) := by decide +kernel
theorem dX4_readsLine_4 : decode cX4_readsLine 4 = .ok (.getfield 39, 3) := by decide +kernel
theorem dX4_readsLine_7 : decode cX4_readsLine 7 = .ok (.iconst 3, 1) := by decide +kernel
theorem dX4_readsLine_8 : decode cX4_readsLine 8 = .ok (.if_icmp .eq 9, 3) := by decide +kernel
theorem dX4_readsLine_11 : decode cX4_readsLine 11 = .ok (.aload_n 0, 1) := by decide +kernel
theorem dX4_readsLine_12 : decode cX4_readsLine 12 = .ok (.iconst 2, 1) := by decide +kernel
theorem dX4_readsLine_13 : decode cX4_readsLine 13 = .ok (.invokevirtual 42, 3) := by decide +kernel
theorem dX4_readsLine_16 : decode cX4_readsLine 16 = .ok (.ireturn, 1) := by decide +kernel
theorem dX4_readsLine_17 : decode cX4_readsLine 17 = .ok (.aload_n 0, 1) := by decide +kernel
theorem dX4_readsLine_18 : decode cX4_readsLine 18 = .ok (.getfield 15, 3) := by decide +kernel
theorem dX4_readsLine_21 : decode cX4_readsLine 21 = .ok (.getfield 46, 3) := by decide +kernel
theorem dX4_readsLine_24 : decode cX4_readsLine 24 = .ok (.tableswitch 178 0 14 #[76, 84, 178, 178, 178, 178, 178, 92, 112, 129, 178, 137, 145, 156, 166], 76) := by decide +kernel
theorem dX4_readsLine_100 : decode cX4_readsLine 100 = .ok (.aload_n 0, 1) := by decide +kernel
theorem dX4_readsLine_101 : decode cX4_readsLine 101 = .ok (.invokevirtual 49, 3) := by decide +kernel
theorem dX4_readsLine_104 : decode cX4_readsLine 104 = .ok (.istore_n 1, 1) := by decide +kernel
theorem dX4_readsLine_105 : decode cX4_readsLine 105 = .ok (.goto 103, 3) := by decide +kernel
theorem dX4_readsLine_108 : decode cX4_readsLine 108 = .ok (.aload_n 0, 1) := by decide +kernel
theorem dX4_readsLine_109 : decode cX4_readsLine 109 = .ok (.invokevirtual 53, 3) := by decide +kernel
theorem dX4_readsLine_112 : decode cX4_readsLine 112 = .ok (.istore_n 1, 1) := by decide +kernel
theorem dX4_readsLine_113 : decode cX4_readsLine 113 = .ok (.goto 95, 3) := by decide +kernel
theorem dX4_readsLine_116 : decode cX4_readsLine 116 = .ok (.aload_n 0, 1) := by decide +kernel
theorem dX4_readsLine_117 : decode cX4_readsLine 117 = .ok (.aload_n 0, 1) := by decide +kernel
theorem dX4_readsLine_118 : decode cX4_readsLine 118 = .ok (.getfield 19, 3) := by decide +kernel
theorem dX4_readsLine_121 : decode cX4_readsLine 121 = .ok (.getfield 56, 3) := by decide +kernel
theorem dX4_readsLine_124 : decode cX4_readsLine 124 = .ok (.getfield 60, 3) := by decide +kernel
theorem dX4_readsLine_127 : decode cX4_readsLine 127 = .ok (.bipush 12, 2) := by decide +kernel
theorem dX4_readsLine_129 : decode cX4_readsLine 129 = .ok (.invokevirtual 66, 3) := by decide +kernel
theorem dX4_readsLine_132 : decode cX4_readsLine 132 = .ok (.istore_n 1, 1) := by decide +kernel
theorem dX4_readsLine_133 : decode cX4_readsLine 133 = .ok (.goto 75, 3) := by decide +kernel
theorem dX4_readsLine_136 : decode cX4_readsLine 136 = .ok (.aload_n 0, 1) := by decide +kernel
theorem dX4_readsLine_137 : decode cX4_readsLine 137 = .ok (.aload_n 0, 1) := by decide +kernel
theorem dX4_readsLine_138 : decode cX4_readsLine 138 = .ok (.getfield 19, 3) := by decide +kernel
theorem dX4_readsLine_141 : decode cX4_readsLine 141 = .ok (.getfield 70, 3) := by decide +kernel
theorem dX4_readsLine_144 : decode cX4_readsLine 144 = .ok (.bipush 8, 2) := by decide +kernel
theorem dX4_readsLine_146 : decode cX4_readsLine 146 = .ok (.invokevirtual 66, 3) := by decide +kernel
theorem dX4_readsLine_149 : decode cX4_readsLine 149 = .ok (.istore_n 1, 1) := by decide +kernel
theorem dX4_readsLine_150 : decode cX4_readsLine 150 = .ok (.goto 58, 3) := by decide +kernel
theorem dX4_readsLine_153 : decode cX4_readsLine 153 = .ok (.aload_n 0, 1) := by decide +kernel
theorem dX4_readsLine_154 : decode cX4_readsLine 154 = .ok (.invokevirtual 73, 3) := by decide +kernel
theorem dX4_readsLine_157 : decode cX4_readsLine 157 = .ok (.istore_n 1, 1) := by decide +kernel
theorem dX4_readsLine_158 : decode cX4_readsLine 158 = .ok (.goto 50, 3) := by decide +kernel
theorem dX4_readsLine_161 : decode cX4_readsLine 161 = .ok (.aload_n 0, 1) := by decide +kernel
theorem dX4_readsLine_162 : decode cX4_readsLine 162 = .ok (.invokevirtual 76, 3) := by decide +kernel
theorem dX4_readsLine_165 : decode cX4_readsLine 165 = .ok (.istore_n 1, 1) := by decide +kernel
theorem dX4_readsLine_166 : decode cX4_readsLine 166 = .ok (.goto 42, 3) := by decide +kernel
theorem dX4_readsLine_169 : decode cX4_readsLine 169 = .ok (.aload_n 0, 1) := by decide +kernel
theorem dX4_readsLine_170 : decode cX4_readsLine 170 = .ok (.iconst 0, 1) := by decide +kernel
theorem dX4_readsLine_171 : decode cX4_readsLine 171 = .ok (.bipush 8, 2) := by decide +kernel
theorem dX4_readsLine_173 : decode cX4_readsLine 173 = .ok (.invokevirtual 79, 3) := by decide +kernel
theorem dX4_readsLine_176 : decode cX4_readsLine 176 = .ok (.istore_n 1, 1) := by decide +kernel
theorem dX4_readsLine_177 : decode cX4_readsLine 177 = .ok (.goto 31, 3) := by decide +kernel
theorem dX4_readsLine_180 : decode cX4_readsLine 180 = .ok (.aload_n 0, 1) := by decide +kernel
theorem dX4_readsLine_181 : decode cX4_readsLine 181 = .ok (.iconst 1, 1) := by decide +kernel
theorem dX4_readsLine_182 : decode cX4_readsLine 182 = .ok (.iconst 5, 1) := by decide +kernel
theorem dX4_readsLine_183 : decode cX4_readsLine 183 = .ok (.invokevirtual 79, 3) := by decide +kernel
theorem dX4_readsLine_186 : decode cX4_readsLine 186 = .ok (.istore_n 1, 1) := by decide +kernel
theorem dX4_readsLine_187 : decode cX4_readsLine 187 = .ok (.goto 21, 3) := by decide +kernel
theorem dX4_readsLine_190 : decode cX4_readsLine 190 = .ok (.aload_n 0, 1) := by decide +kernel
theorem dX4_readsLine_191 : decode cX4_readsLine 191 = .ok (.iconst 0, 1) := by decide +kernel
theorem dX4_readsLine_192 : decode cX4_readsLine 192 = .ok (.sipush 999, 3) := by decide +kernel
theorem dX4_readsLine_195 : decode cX4_readsLine 195 = .ok (.invokevirtual 79, 3) := by decide +kernel
theorem dX4_readsLine_198 : decode cX4_readsLine 198 = .ok (.istore_n 1, 1) := by decide +kernel
theorem dX4_readsLine_199 : decode cX4_readsLine 199 = .ok (.goto 9, 3) := by decide +kernel
theorem dX4_readsLine_202 : decode cX4_readsLine 202 = .ok (.aload_n 0, 1) := by decide +kernel
theorem dX4_readsLine_203 : decode cX4_readsLine 203 = .ok (.iconst 2, 1) := by decide +kernel
theorem dX4_readsLine_204 : decode cX4_readsLine 204 = .ok (.invokevirtual 42, 3) := by decide +kernel
theorem dX4_readsLine_207 : decode cX4_readsLine 207 = .ok (.istore_n 1, 1) := by decide +kernel
theorem dX4_readsLine_208 : decode cX4_readsLine 208 = .ok (.iload_n 1, 1) := by decide +kernel
theorem dX4_readsLine_209 : decode cX4_readsLine 209 = .ok (.ifCond .eq 16, 3) := by decide +kernel
theorem dX4_readsLine_212 : decode cX4_readsLine 212 = .ok (.aload_n 0, 1) := by decide +kernel
theorem dX4_readsLine_213 : decode cX4_readsLine 213 = .ok (.bipush 59, 2) := by decide +kernel
theorem dX4_readsLine_215 : decode cX4_readsLine 215 = .ok (.invokevirtual 83, 3) := by decide +kernel
theorem dX4_readsLine_218 : decode cX4_readsLine 218 = .ok (.ifCond .eq 7, 3) := by decide +kernel
theorem dX4_readsLine_221 : decode cX4_readsLine 221 = .ok (.iconst 1, 1) := by decide +kernel
theorem dX4_readsLine_222 : decode cX4_readsLine 222 = .ok (.goto 4, 3) := by decide +kernel
theorem dX4_readsLine_225 : decode cX4_readsLine 225 = .ok (.iconst 0, 1) := by decide +kernel
theorem dX4_readsLine_226 : decode cX4_readsLine 226 = .ok (.ireturn, 1) := by decide +kernel
theorem dX4_refuse_0 : decode cX4_refuse 0 = .ok (.aload_n 0, 1) := by decide +kernel
theorem dX4_refuse_1 : decode cX4_refuse 1 = .ok (.aload_n 0, 1) := by decide +kernel
theorem dX4_refuse_2 : decode cX4_refuse 2 = .ok (.getfield 15, 3) := by decide +kernel
theorem dX4_refuse_5 : decode cX4_refuse 5 = .ok (.getfield 39, 3) := by decide +kernel
theorem dX4_refuse_8 : decode cX4_refuse 8 = .ok (.iconst 1, 1) := by decide +kernel
theorem dX4_refuse_9 : decode cX4_refuse 9 = .ok (.if_icmp .ne 7, 3) := by decide +kernel
theorem dX4_refuse_12 : decode cX4_refuse 12 = .ok (.iconst 1, 1) := by decide +kernel
theorem dX4_refuse_13 : decode cX4_refuse 13 = .ok (.goto 4, 3) := by decide +kernel
theorem dX4_refuse_16 : decode cX4_refuse 16 = .ok (.iload_n 1, 1) := by decide +kernel
theorem dX4_refuse_17 : decode cX4_refuse 17 = .ok (.putfield 31, 3) := by decide +kernel
theorem dX4_refuse_20 : decode cX4_refuse 20 = .ok (.aload_n 0, 1) := by decide +kernel
theorem dX4_refuse_21 : decode cX4_refuse 21 = .ok (.aload_n 0, 1) := by decide +kernel
theorem dX4_refuse_22 : decode cX4_refuse 22 = .ok (.getfield 15, 3) := by decide +kernel
theorem dX4_refuse_25 : decode cX4_refuse 25 = .ok (.getfield 87, 3) := by decide +kernel
theorem dX4_refuse_28 : decode cX4_refuse 28 = .ok (.putfield 9, 3) := by decide +kernel
theorem dX4_refuse_31 : decode cX4_refuse 31 = .ok (.iconst 0, 1) := by decide +kernel
theorem dX4_refuse_32 : decode cX4_refuse 32 = .ok (.ireturn, 1) := by decide +kernel
theorem dX4_churchLine_0 : decode cX4_churchLine 0 = .ok (.aload_n 0, 1) := by decide +kernel
theorem dX4_churchLine_1 : decode cX4_churchLine 1 = .ok (.getfield 19, 3) := by decide +kernel
theorem dX4_churchLine_4 : decode cX4_churchLine 4 = .ok (.getfield 90, 3) := by decide +kernel
theorem dX4_churchLine_7 : decode cX4_churchLine 7 = .ok (.iconst 4, 1) := by decide +kernel
theorem dX4_churchLine_8 : decode cX4_churchLine 8 = .ok (.if_icmp .lt 9, 3) := by decide +kernel
theorem dX4_churchLine_11 : decode cX4_churchLine 11 = .ok (.aload_n 0, 1) := by decide +kernel
theorem dX4_churchLine_12 : decode cX4_churchLine 12 = .ok (.iconst 2, 1) := by decide +kernel
theorem dX4_churchLine_13 : decode cX4_churchLine 13 = .ok (.invokevirtual 42, 3) := by decide +kernel
theorem dX4_churchLine_16 : decode cX4_churchLine 16 = .ok (.ireturn, 1) := by decide +kernel
theorem dX4_churchLine_17 : decode cX4_churchLine 17 = .ok (.aload_n 0, 1) := by decide +kernel
theorem dX4_churchLine_18 : decode cX4_churchLine 18 = .ok (.getfield 15, 3) := by decide +kernel
theorem dX4_churchLine_21 : decode cX4_churchLine 21 = .ok (.invokevirtual 93, 3) := by decide +kernel
theorem dX4_churchLine_24 : decode cX4_churchLine 24 = .ok (.aload_n 0, 1) := by decide +kernel
theorem dX4_churchLine_25 : decode cX4_churchLine 25 = .ok (.aload_n 0, 1) := by decide +kernel
theorem dX4_churchLine_26 : decode cX4_churchLine 26 = .ok (.getfield 19, 3) := by decide +kernel
theorem dX4_churchLine_29 : decode cX4_churchLine 29 = .ok (.aload_n 0, 1) := by decide +kernel
theorem dX4_churchLine_30 : decode cX4_churchLine 30 = .ok (.getfield 15, 3) := by decide +kernel
theorem dX4_churchLine_33 : decode cX4_churchLine 33 = .ok (.getfield 96, 3) := by decide +kernel
theorem dX4_churchLine_36 : decode cX4_churchLine 36 = .ok (.invokevirtual 100, 3) := by decide +kernel
theorem dX4_churchLine_39 : decode cX4_churchLine 39 = .ok (.invokevirtual 104, 3) := by decide +kernel
theorem dX4_churchLine_42 : decode cX4_churchLine 42 = .ok (.ifCond .ne 5, 3) := by decide +kernel
theorem dX4_churchLine_45 : decode cX4_churchLine 45 = .ok (.iconst 0, 1) := by decide +kernel
theorem dX4_churchLine_46 : decode cX4_churchLine 46 = .ok (.ireturn, 1) := by decide +kernel
theorem dX4_churchLine_47 : decode cX4_churchLine 47 = .ok (.aload_n 0, 1) := by decide +kernel
theorem dX4_churchLine_48 : decode cX4_churchLine 48 = .ok (.getfield 19, 3) := by decide +kernel
theorem dX4_churchLine_51 : decode cX4_churchLine 51 = .ok (.aload_n 0, 1) := by decide +kernel
theorem dX4_churchLine_52 : decode cX4_churchLine 52 = .ok (.getfield 15, 3) := by decide +kernel
theorem dX4_churchLine_55 : decode cX4_churchLine 55 = .ok (.getfield 96, 3) := by decide +kernel
theorem dX4_churchLine_58 : decode cX4_churchLine 58 = .ok (.invokevirtual 107, 3) := by decide +kernel
theorem dX4_churchLine_61 : decode cX4_churchLine 61 = .ok (.aload_n 0, 1) := by decide +kernel
theorem dX4_churchLine_62 : decode cX4_churchLine 62 = .ok (.getfield 15, 3) := by decide +kernel
theorem dX4_churchLine_65 : decode cX4_churchLine 65 = .ok (.invokevirtual 93, 3) := by decide +kernel
theorem dX4_churchLine_68 : decode cX4_churchLine 68 = .ok (.iconst 1, 1) := by decide +kernel
theorem dX4_churchLine_69 : decode cX4_churchLine 69 = .ok (.ireturn, 1) := by decide +kernel
theorem dX4_personLine_0 : decode cX4_personLine 0 = .ok (.aload_n 0, 1) := by decide +kernel
theorem dX4_personLine_1 : decode cX4_personLine 1 = .ok (.getfield 19, 3) := by decide +kernel
theorem dX4_personLine_4 : decode cX4_personLine 4 = .ok (.getfield 111, 3) := by decide +kernel
theorem dX4_personLine_7 : decode cX4_personLine 7 = .ok (.bipush 8, 2) := by decide +kernel
theorem dX4_personLine_9 : decode cX4_personLine 9 = .ok (.if_icmp .lt 9, 3) := by decide +kernel
theorem dX4_personLine_12 : decode cX4_personLine 12 = .ok (.aload_n 0, 1) := by decide +kernel
theorem dX4_personLine_13 : decode cX4_personLine 13 = .ok (.iconst 2, 1) := by decide +kernel
theorem dX4_personLine_14 : decode cX4_personLine 14 = .ok (.invokevirtual 42, 3) := by decide +kernel
theorem dX4_personLine_17 : decode cX4_personLine 17 = .ok (.ireturn, 1) := by decide +kernel
theorem dX4_personLine_18 : decode cX4_personLine 18 = .ok (.aload_n 0, 1) := by decide +kernel
theorem dX4_personLine_19 : decode cX4_personLine 19 = .ok (.getfield 15, 3) := by decide +kernel
theorem dX4_personLine_22 : decode cX4_personLine 22 = .ok (.invokevirtual 93, 3) := by decide +kernel
theorem dX4_personLine_25 : decode cX4_personLine 25 = .ok (.aload_n 0, 1) := by decide +kernel
theorem dX4_personLine_26 : decode cX4_personLine 26 = .ok (.aload_n 0, 1) := by decide +kernel
theorem dX4_personLine_27 : decode cX4_personLine 27 = .ok (.getfield 19, 3) := by decide +kernel
theorem dX4_personLine_30 : decode cX4_personLine 30 = .ok (.aload_n 0, 1) := by decide +kernel
theorem dX4_personLine_31 : decode cX4_personLine 31 = .ok (.getfield 15, 3) := by decide +kernel
theorem dX4_personLine_34 : decode cX4_personLine 34 = .ok (.getfield 96, 3) := by decide +kernel
theorem dX4_personLine_37 : decode cX4_personLine 37 = .ok (.invokevirtual 114, 3) := by decide +kernel
theorem dX4_personLine_40 : decode cX4_personLine 40 = .ok (.invokevirtual 104, 3) := by decide +kernel
theorem dX4_personLine_43 : decode cX4_personLine 43 = .ok (.ifCond .ne 5, 3) := by decide +kernel
theorem dX4_personLine_46 : decode cX4_personLine 46 = .ok (.iconst 0, 1) := by decide +kernel
theorem dX4_personLine_47 : decode cX4_personLine 47 = .ok (.ireturn, 1) := by decide +kernel
theorem dX4_personLine_48 : decode cX4_personLine 48 = .ok (.aload_n 0, 1) := by decide +kernel
theorem dX4_personLine_49 : decode cX4_personLine 49 = .ok (.getfield 15, 3) := by decide +kernel
theorem dX4_personLine_52 : decode cX4_personLine 52 = .ok (.getfield 96, 3) := by decide +kernel
theorem dX4_personLine_55 : decode cX4_personLine 55 = .ok (.lstore_n 1, 1) := by decide +kernel
theorem dX4_personLine_56 : decode cX4_personLine 56 = .ok (.aload_n 0, 1) := by decide +kernel
theorem dX4_personLine_57 : decode cX4_personLine 57 = .ok (.getfield 15, 3) := by decide +kernel
theorem dX4_personLine_60 : decode cX4_personLine 60 = .ok (.invokevirtual 93, 3) := by decide +kernel
theorem dX4_personLine_63 : decode cX4_personLine 63 = .ok (.aload_n 0, 1) := by decide +kernel
theorem dX4_personLine_64 : decode cX4_personLine 64 = .ok (.iconst 2, 1) := by decide +kernel
theorem dX4_personLine_65 : decode cX4_personLine 65 = .ok (.invokevirtual 117, 3) := by decide +kernel
theorem dX4_personLine_68 : decode cX4_personLine 68 = .ok (.ifCond .ne 5, 3) := by decide +kernel
theorem dX4_personLine_71 : decode cX4_personLine 71 = .ok (.iconst 0, 1) := by decide +kernel
theorem dX4_personLine_72 : decode cX4_personLine 72 = .ok (.ireturn, 1) := by decide +kernel
theorem dX4_personLine_73 : decode cX4_personLine 73 = .ok (.aload_n 0, 1) := by decide +kernel
theorem dX4_personLine_74 : decode cX4_personLine 74 = .ok (.invokevirtual 120, 3) := by decide +kernel
theorem dX4_personLine_77 : decode cX4_personLine 77 = .ok (.istore_n 3, 1) := by decide +kernel
theorem dX4_personLine_78 : decode cX4_personLine 78 = .ok (.iload_n 3, 1) := by decide +kernel
theorem dX4_personLine_79 : decode cX4_personLine 79 = .ok (.iconst (-1), 1) := by decide +kernel
theorem dX4_personLine_80 : decode cX4_personLine 80 = .ok (.if_icmp .ne 5, 3) := by decide +kernel
theorem dX4_personLine_83 : decode cX4_personLine 83 = .ok (.iconst 0, 1) := by decide +kernel
theorem dX4_personLine_84 : decode cX4_personLine 84 = .ok (.ireturn, 1) := by decide +kernel
theorem dX4_personLine_85 : decode cX4_personLine 85 = .ok (.aload_n 0, 1) := by decide +kernel
theorem dX4_personLine_86 : decode cX4_personLine 86 = .ok (.getfield 19, 3) := by decide +kernel
theorem dX4_personLine_89 : decode cX4_personLine 89 = .ok (.lload_n 1, 1) := by decide +kernel
theorem dX4_personLine_90 : decode cX4_personLine 90 = .ok (.iload_n 3, 1) := by decide +kernel
theorem dX4_personLine_91 : decode cX4_personLine 91 = .ok (.invokevirtual 124, 3) := by decide +kernel
theorem dX4_personLine_94 : decode cX4_personLine 94 = .ok (.aload_n 0, 1) := by decide +kernel
theorem dX4_personLine_95 : decode cX4_personLine 95 = .ok (.invokevirtual 128, 3) := by decide +kernel
theorem dX4_personLine_98 : decode cX4_personLine 98 = .ok (.ifCond .eq 10, 3) := by decide +kernel
theorem dX4_personLine_101 : decode cX4_personLine 101 = .ok (.aload_n 0, 1) := by decide +kernel
theorem dX4_personLine_102 : decode cX4_personLine 102 = .ok (.invokevirtual 131, 3) := by decide +kernel
theorem dX4_personLine_105 : decode cX4_personLine 105 = .ok (.ifCond .ne 5, 3) := by decide +kernel
theorem dX4_personLine_108 : decode cX4_personLine 108 = .ok (.iconst 0, 1) := by decide +kernel
theorem dX4_personLine_109 : decode cX4_personLine 109 = .ok (.ireturn, 1) := by decide +kernel
theorem dX4_personLine_110 : decode cX4_personLine 110 = .ok (.aload_n 0, 1) := by decide +kernel
theorem dX4_personLine_111 : decode cX4_personLine 111 = .ok (.getfield 19, 3) := by decide +kernel
theorem dX4_personLine_114 : decode cX4_personLine 114 = .ok (.dup, 1) := by decide +kernel
theorem dX4_personLine_115 : decode cX4_personLine 115 = .ok (.getfield 111, 3) := by decide +kernel
theorem dX4_personLine_118 : decode cX4_personLine 118 = .ok (.iconst 1, 1) := by decide +kernel
theorem dX4_personLine_119 : decode cX4_personLine 119 = .ok (.iadd, 1) := by decide +kernel
theorem dX4_personLine_120 : decode cX4_personLine 120 = .ok (.putfield 111, 3) := by decide +kernel
theorem dX4_personLine_123 : decode cX4_personLine 123 = .ok (.iconst 1, 1) := by decide +kernel
theorem dX4_personLine_124 : decode cX4_personLine 124 = .ok (.ireturn, 1) := by decide +kernel
theorem dX4_parents_0 : decode cX4_parents 0 = .ok (.aload_n 0, 1) := by decide +kernel
theorem dX4_parents_1 : decode cX4_parents 1 = .ok (.getfield 15, 3) := by decide +kernel
theorem dX4_parents_4 : decode cX4_parents 4 = .ok (.iconst 3, 1) := by decide +kernel
theorem dX4_parents_5 : decode cX4_parents 5 = .ok (.invokevirtual 134, 3) := by decide +kernel
theorem dX4_parents_8 : decode cX4_parents 8 = .ok (.ifCond .ne 5, 3) := by decide +kernel
theorem dX4_parents_11 : decode cX4_parents 11 = .ok (.iconst 1, 1) := by decide +kernel
theorem dX4_parents_12 : decode cX4_parents 12 = .ok (.ireturn, 1) := by decide +kernel
theorem dX4_parents_13 : decode cX4_parents 13 = .ok (.aload_n 0, 1) := by decide +kernel
theorem dX4_parents_14 : decode cX4_parents 14 = .ok (.getfield 15, 3) := by decide +kernel
theorem dX4_parents_17 : decode cX4_parents 17 = .ok (.invokevirtual 93, 3) := by decide +kernel
theorem dX4_parents_20 : decode cX4_parents 20 = .ok (.aload_n 0, 1) := by decide +kernel
theorem dX4_parents_21 : decode cX4_parents 21 = .ok (.iconst 0, 1) := by decide +kernel
theorem dX4_parents_22 : decode cX4_parents 22 = .ok (.invokevirtual 137, 3) := by decide +kernel
theorem dX4_parents_25 : decode cX4_parents 25 = .ok (.istore_n 1, 1) := by decide +kernel
theorem dX4_parents_26 : decode cX4_parents 26 = .ok (.iload_n 1, 1) := by decide +kernel
theorem dX4_parents_27 : decode cX4_parents 27 = .ok (.iconst (-1), 1) := by decide +kernel
theorem dX4_parents_28 : decode cX4_parents 28 = .ok (.if_icmp .ne 5, 3) := by decide +kernel
theorem dX4_parents_31 : decode cX4_parents 31 = .ok (.iconst 0, 1) := by decide +kernel
theorem dX4_parents_32 : decode cX4_parents 32 = .ok (.ireturn, 1) := by decide +kernel
theorem dX4_parents_33 : decode cX4_parents 33 = .ok (.aload_n 0, 1) := by decide +kernel
theorem dX4_parents_34 : decode cX4_parents 34 = .ok (.getfield 19, 3) := by decide +kernel
theorem dX4_parents_37 : decode cX4_parents 37 = .ok (.getfield 56, 3) := by decide +kernel
theorem dX4_parents_40 : decode cX4_parents 40 = .ok (.getfield 141, 3) := by decide +kernel
theorem dX4_parents_43 : decode cX4_parents 43 = .ok (.aload_n 0, 1) := by decide +kernel
theorem dX4_parents_44 : decode cX4_parents 44 = .ok (.getfield 19, 3) := by decide +kernel
theorem dX4_parents_47 : decode cX4_parents 47 = .ok (.getfield 111, 3) := by decide +kernel
theorem dX4_parents_50 : decode cX4_parents 50 = .ok (.iload_n 1, 1) := by decide +kernel
theorem dX4_parents_51 : decode cX4_parents 51 = .ok (.iastore, 1) := by decide +kernel
theorem dX4_parents_52 : decode cX4_parents 52 = .ok (.aload_n 0, 1) := by decide +kernel
theorem dX4_parents_53 : decode cX4_parents 53 = .ok (.getfield 15, 3) := by decide +kernel
theorem dX4_parents_56 : decode cX4_parents 56 = .ok (.iconst 4, 1) := by decide +kernel
theorem dX4_parents_57 : decode cX4_parents 57 = .ok (.invokevirtual 134, 3) := by decide +kernel
theorem dX4_parents_60 : decode cX4_parents 60 = .ok (.ifCond .ne 5, 3) := by decide +kernel
theorem dX4_parents_63 : decode cX4_parents 63 = .ok (.iconst 1, 1) := by decide +kernel
theorem dX4_parents_64 : decode cX4_parents 64 = .ok (.ireturn, 1) := by decide +kernel
theorem dX4_parents_65 : decode cX4_parents 65 = .ok (.aload_n 0, 1) := by decide +kernel
theorem dX4_parents_66 : decode cX4_parents 66 = .ok (.getfield 15, 3) := by decide +kernel
theorem dX4_parents_69 : decode cX4_parents 69 = .ok (.invokevirtual 93, 3) := by decide +kernel
theorem dX4_parents_72 : decode cX4_parents 72 = .ok (.aload_n 0, 1) := by decide +kernel
theorem dX4_parents_73 : decode cX4_parents 73 = .ok (.iconst 1, 1) := by decide +kernel
theorem dX4_parents_74 : decode cX4_parents 74 = .ok (.iload_n 1, 1) := by decide +kernel
theorem dX4_parents_75 : decode cX4_parents 75 = .ok (.ishl, 1) := by decide +kernel
theorem dX4_parents_76 : decode cX4_parents 76 = .ok (.invokevirtual 137, 3) := by decide +kernel
theorem dX4_parents_79 : decode cX4_parents 79 = .ok (.istore_n 2, 1) := by decide +kernel
theorem dX4_parents_80 : decode cX4_parents 80 = .ok (.iload_n 2, 1) := by decide +kernel
theorem dX4_parents_81 : decode cX4_parents 81 = .ok (.iconst (-1), 1) := by decide +kernel
theorem dX4_parents_82 : decode cX4_parents 82 = .ok (.if_icmp .ne 5, 3) := by decide +kernel
theorem dX4_parents_85 : decode cX4_parents 85 = .ok (.iconst 0, 1) := by decide +kernel
theorem dX4_parents_86 : decode cX4_parents 86 = .ok (.ireturn, 1) := by decide +kernel
theorem dX4_parents_87 : decode cX4_parents 87 = .ok (.aload_n 0, 1) := by decide +kernel
theorem dX4_parents_88 : decode cX4_parents 88 = .ok (.getfield 19, 3) := by decide +kernel
theorem dX4_parents_91 : decode cX4_parents 91 = .ok (.getfield 56, 3) := by decide +kernel
theorem dX4_parents_94 : decode cX4_parents 94 = .ok (.getfield 144, 3) := by decide +kernel
theorem dX4_parents_97 : decode cX4_parents 97 = .ok (.aload_n 0, 1) := by decide +kernel
theorem dX4_parents_98 : decode cX4_parents 98 = .ok (.getfield 19, 3) := by decide +kernel
theorem dX4_parents_101 : decode cX4_parents 101 = .ok (.getfield 111, 3) := by decide +kernel
theorem dX4_parents_104 : decode cX4_parents 104 = .ok (.iload_n 2, 1) := by decide +kernel
theorem dX4_parents_105 : decode cX4_parents 105 = .ok (.iastore, 1) := by decide +kernel
theorem dX4_parents_106 : decode cX4_parents 106 = .ok (.iconst 1, 1) := by decide +kernel
theorem dX4_parents_107 : decode cX4_parents 107 = .ok (.ireturn, 1) := by decide +kernel
theorem dX4_vowAndSailing_0 : decode cX4_vowAndSailing 0 = .ok (.aload_n 0, 1) := by decide +kernel
theorem dX4_vowAndSailing_1 : decode cX4_vowAndSailing 1 = .ok (.getfield 15, 3) := by decide +kernel
theorem dX4_vowAndSailing_4 : decode cX4_vowAndSailing 4 = .ok (.iconst 5, 1) := by decide +kernel
theorem dX4_vowAndSailing_5 : decode cX4_vowAndSailing 5 = .ok (.invokevirtual 134, 3) := by decide +kernel
theorem dX4_vowAndSailing_8 : decode cX4_vowAndSailing 8 = .ok (.ifCond .eq 31, 3) := by decide +kernel
theorem dX4_vowAndSailing_11 : decode cX4_vowAndSailing 11 = .ok (.aload_n 0, 1) := by decide +kernel
theorem dX4_vowAndSailing_12 : decode cX4_vowAndSailing 12 = .ok (.getfield 19, 3) := by decide +kernel
theorem dX4_vowAndSailing_15 : decode cX4_vowAndSailing 15 = .ok (.dup, 1) := by decide +kernel
theorem dX4_vowAndSailing_16 : decode cX4_vowAndSailing 16 = .ok (.getfield 147, 3) := by decide +kernel
theorem dX4_vowAndSailing_19 : decode cX4_vowAndSailing 19 = .ok (.iconst 1, 1) := by decide +kernel
theorem dX4_vowAndSailing_20 : decode cX4_vowAndSailing 20 = .ok (.aload_n 0, 1) := by decide +kernel
theorem dX4_vowAndSailing_21 : decode cX4_vowAndSailing 21 = .ok (.getfield 19, 3) := by decide +kernel
theorem dX4_vowAndSailing_24 : decode cX4_vowAndSailing 24 = .ok (.getfield 111, 3) := by decide +kernel
theorem dX4_vowAndSailing_27 : decode cX4_vowAndSailing 27 = .ok (.ishl, 1) := by decide +kernel
theorem dX4_vowAndSailing_28 : decode cX4_vowAndSailing 28 = .ok (.ior, 1) := by decide +kernel
theorem dX4_vowAndSailing_29 : decode cX4_vowAndSailing 29 = .ok (.putfield 147, 3) := by decide +kernel
theorem dX4_vowAndSailing_32 : decode cX4_vowAndSailing 32 = .ok (.aload_n 0, 1) := by decide +kernel
theorem dX4_vowAndSailing_33 : decode cX4_vowAndSailing 33 = .ok (.getfield 15, 3) := by decide +kernel
theorem dX4_vowAndSailing_36 : decode cX4_vowAndSailing 36 = .ok (.invokevirtual 93, 3) := by decide +kernel
theorem dX4_vowAndSailing_39 : decode cX4_vowAndSailing 39 = .ok (.aload_n 0, 1) := by decide +kernel
theorem dX4_vowAndSailing_40 : decode cX4_vowAndSailing 40 = .ok (.getfield 15, 3) := by decide +kernel
theorem dX4_vowAndSailing_43 : decode cX4_vowAndSailing 43 = .ok (.bipush 6, 2) := by decide +kernel
theorem dX4_vowAndSailing_45 : decode cX4_vowAndSailing 45 = .ok (.invokevirtual 134, 3) := by decide +kernel
theorem dX4_vowAndSailing_48 : decode cX4_vowAndSailing 48 = .ok (.ifCond .ne 5, 3) := by decide +kernel
theorem dX4_vowAndSailing_51 : decode cX4_vowAndSailing 51 = .ok (.iconst 1, 1) := by decide +kernel
theorem dX4_vowAndSailing_52 : decode cX4_vowAndSailing 52 = .ok (.ireturn, 1) := by decide +kernel
theorem dX4_vowAndSailing_53 : decode cX4_vowAndSailing 53 = .ok (.aload_n 0, 1) := by decide +kernel
theorem dX4_vowAndSailing_54 : decode cX4_vowAndSailing 54 = .ok (.getfield 15, 3) := by decide +kernel
theorem dX4_vowAndSailing_57 : decode cX4_vowAndSailing 57 = .ok (.invokevirtual 93, 3) := by decide +kernel
theorem dX4_vowAndSailing_60 : decode cX4_vowAndSailing 60 = .ok (.aload_n 0, 1) := by decide +kernel
theorem dX4_vowAndSailing_61 : decode cX4_vowAndSailing 61 = .ok (.iconst 1, 1) := by decide +kernel
theorem dX4_vowAndSailing_62 : decode cX4_vowAndSailing 62 = .ok (.bipush 12, 2) := by decide +kernel
theorem dX4_vowAndSailing_64 : decode cX4_vowAndSailing 64 = .ok (.invokevirtual 150, 3) := by decide +kernel
theorem dX4_vowAndSailing_67 : decode cX4_vowAndSailing 67 = .ok (.istore_n 1, 1) := by decide +kernel
theorem dX4_vowAndSailing_68 : decode cX4_vowAndSailing 68 = .ok (.iload_n 1, 1) := by decide +kernel
theorem dX4_vowAndSailing_69 : decode cX4_vowAndSailing 69 = .ok (.iconst (-1), 1) := by decide +kernel
theorem dX4_vowAndSailing_70 : decode cX4_vowAndSailing 70 = .ok (.if_icmp .ne 5, 3) := by decide +kernel
theorem dX4_vowAndSailing_73 : decode cX4_vowAndSailing 73 = .ok (.iconst 0, 1) := by decide +kernel
theorem dX4_vowAndSailing_74 : decode cX4_vowAndSailing 74 = .ok (.ireturn, 1) := by decide +kernel
theorem dX4_vowAndSailing_75 : decode cX4_vowAndSailing 75 = .ok (.aload_n 0, 1) := by decide +kernel
theorem dX4_vowAndSailing_76 : decode cX4_vowAndSailing 76 = .ok (.getfield 19, 3) := by decide +kernel
theorem dX4_vowAndSailing_79 : decode cX4_vowAndSailing 79 = .ok (.getfield 154, 3) := by decide +kernel
theorem dX4_vowAndSailing_82 : decode cX4_vowAndSailing 82 = .ok (.aload_n 0, 1) := by decide +kernel
theorem dX4_vowAndSailing_83 : decode cX4_vowAndSailing 83 = .ok (.getfield 19, 3) := by decide +kernel
theorem dX4_vowAndSailing_86 : decode cX4_vowAndSailing 86 = .ok (.getfield 111, 3) := by decide +kernel
theorem dX4_vowAndSailing_89 : decode cX4_vowAndSailing 89 = .ok (.iload_n 1, 1) := by decide +kernel
theorem dX4_vowAndSailing_90 : decode cX4_vowAndSailing 90 = .ok (.iastore, 1) := by decide +kernel
theorem dX4_vowAndSailing_91 : decode cX4_vowAndSailing 91 = .ok (.iconst 1, 1) := by decide +kernel
theorem dX4_vowAndSailing_92 : decode cX4_vowAndSailing 92 = .ok (.ireturn, 1) := by decide +kernel
theorem dX4_linkLine_0 : decode cX4_linkLine 0 = .ok (.iconst 0, 1) := by decide +kernel
theorem dX4_linkLine_1 : decode cX4_linkLine 1 = .ok (.istore_n 3, 1) := by decide +kernel
theorem dX4_linkLine_2 : decode cX4_linkLine 2 = .ok (.aload_n 1, 1) := by decide +kernel
theorem dX4_linkLine_3 : decode cX4_linkLine 3 = .ok (.astore 4, 2) := by decide +kernel
theorem dX4_linkLine_5 : decode cX4_linkLine 5 = .ok (.aload 4, 2) := by decide +kernel
theorem dX4_linkLine_7 : decode cX4_linkLine 7 = .ok (.arraylength, 1) := by decide +kernel
theorem dX4_linkLine_8 : decode cX4_linkLine 8 = .ok (.istore 5, 2) := by decide +kernel
theorem dX4_linkLine_10 : decode cX4_linkLine 10 = .ok (.iconst 0, 1) := by decide +kernel
theorem dX4_linkLine_11 : decode cX4_linkLine 11 = .ok (.istore 6, 2) := by decide +kernel
theorem dX4_linkLine_13 : decode cX4_linkLine 13 = .ok (.iload 6, 2) := by decide +kernel
theorem dX4_linkLine_15 : decode cX4_linkLine 15 = .ok (.iload 5, 2) := by decide +kernel
theorem dX4_linkLine_17 : decode cX4_linkLine 17 = .ok (.if_icmp .ge 24, 3) := by decide +kernel
theorem dX4_linkLine_20 : decode cX4_linkLine 20 = .ok (.aload 4, 2) := by decide +kernel
theorem dX4_linkLine_22 : decode cX4_linkLine 22 = .ok (.iload 6, 2) := by decide +kernel
theorem dX4_linkLine_24 : decode cX4_linkLine 24 = .ok (.iaload, 1) := by decide +kernel
theorem dX4_linkLine_25 : decode cX4_linkLine 25 = .ok (.istore 7, 2) := by decide +kernel
theorem dX4_linkLine_27 : decode cX4_linkLine 27 = .ok (.iload_n 3, 1) := by decide +kernel
theorem dX4_linkLine_28 : decode cX4_linkLine 28 = .ok (.iload 7, 2) := by decide +kernel
theorem dX4_linkLine_30 : decode cX4_linkLine 30 = .ok (.invokestatic 157, 3) := by decide +kernel
theorem dX4_linkLine_33 : decode cX4_linkLine 33 = .ok (.iadd, 1) := by decide +kernel
theorem dX4_linkLine_34 : decode cX4_linkLine 34 = .ok (.istore_n 3, 1) := by decide +kernel
theorem dX4_linkLine_35 : decode cX4_linkLine 35 = .ok (.iinc 6 1, 3) := by decide +kernel
theorem dX4_linkLine_38 : decode cX4_linkLine 38 = .ok (.goto (-25), 3) := by decide +kernel
theorem dX4_linkLine_41 : decode cX4_linkLine 41 = .ok (.iload_n 3, 1) := by decide +kernel
theorem dX4_linkLine_42 : decode cX4_linkLine 42 = .ok (.iload_n 2, 1) := by decide +kernel
theorem dX4_linkLine_43 : decode cX4_linkLine 43 = .ok (.if_icmp .lt 9, 3) := by decide +kernel
theorem dX4_linkLine_46 : decode cX4_linkLine 46 = .ok (.aload_n 0, 1) := by decide +kernel
theorem dX4_linkLine_47 : decode cX4_linkLine 47 = .ok (.iconst 2, 1) := by decide +kernel
theorem dX4_linkLine_48 : decode cX4_linkLine 48 = .ok (.invokevirtual 42, 3) := by decide +kernel
theorem dX4_linkLine_51 : decode cX4_linkLine 51 = .ok (.ireturn, 1) := by decide +kernel
theorem dX4_linkLine_52 : decode cX4_linkLine 52 = .ok (.aload_n 0, 1) := by decide +kernel
theorem dX4_linkLine_53 : decode cX4_linkLine 53 = .ok (.getfield 15, 3) := by decide +kernel
theorem dX4_linkLine_56 : decode cX4_linkLine 56 = .ok (.invokevirtual 93, 3) := by decide +kernel
theorem dX4_linkLine_59 : decode cX4_linkLine 59 = .ok (.aload_n 0, 1) := by decide +kernel
theorem dX4_linkLine_60 : decode cX4_linkLine 60 = .ok (.iconst 0, 1) := by decide +kernel
theorem dX4_linkLine_61 : decode cX4_linkLine 61 = .ok (.invokevirtual 137, 3) := by decide +kernel
theorem dX4_linkLine_64 : decode cX4_linkLine 64 = .ok (.istore 4, 2) := by decide +kernel
theorem dX4_linkLine_66 : decode cX4_linkLine 66 = .ok (.iload 4, 2) := by decide +kernel
theorem dX4_linkLine_68 : decode cX4_linkLine 68 = .ok (.iconst (-1), 1) := by decide +kernel
theorem dX4_linkLine_69 : decode cX4_linkLine 69 = .ok (.if_icmp .ne 5, 3) := by decide +kernel
theorem dX4_linkLine_72 : decode cX4_linkLine 72 = .ok (.iconst 0, 1) := by decide +kernel
theorem dX4_linkLine_73 : decode cX4_linkLine 73 = .ok (.ireturn, 1) := by decide +kernel
theorem dX4_linkLine_74 : decode cX4_linkLine 74 = .ok (.aload_n 0, 1) := by decide +kernel
theorem dX4_linkLine_75 : decode cX4_linkLine 75 = .ok (.aload_n 1, 1) := by decide +kernel
theorem dX4_linkLine_76 : decode cX4_linkLine 76 = .ok (.iload 4, 2) := by decide +kernel
theorem dX4_linkLine_78 : decode cX4_linkLine 78 = .ok (.iaload, 1) := by decide +kernel
theorem dX4_linkLine_79 : decode cX4_linkLine 79 = .ok (.iconst 1, 1) := by decide +kernel
theorem dX4_linkLine_80 : decode cX4_linkLine 80 = .ok (.iload 4, 2) := by decide +kernel
theorem dX4_linkLine_82 : decode cX4_linkLine 82 = .ok (.ishl, 1) := by decide +kernel
theorem dX4_linkLine_83 : decode cX4_linkLine 83 = .ok (.ior, 1) := by decide +kernel
theorem dX4_linkLine_84 : decode cX4_linkLine 84 = .ok (.invokevirtual 137, 3) := by decide +kernel
theorem dX4_linkLine_87 : decode cX4_linkLine 87 = .ok (.istore 5, 2) := by decide +kernel
theorem dX4_linkLine_89 : decode cX4_linkLine 89 = .ok (.iload 5, 2) := by decide +kernel
theorem dX4_linkLine_91 : decode cX4_linkLine 91 = .ok (.iconst (-1), 1) := by decide +kernel
theorem dX4_linkLine_92 : decode cX4_linkLine 92 = .ok (.if_icmp .ne 5, 3) := by decide +kernel
theorem dX4_linkLine_95 : decode cX4_linkLine 95 = .ok (.iconst 0, 1) := by decide +kernel
theorem dX4_linkLine_96 : decode cX4_linkLine 96 = .ok (.ireturn, 1) := by decide +kernel
theorem dX4_linkLine_97 : decode cX4_linkLine 97 = .ok (.aload_n 1, 1) := by decide +kernel
theorem dX4_linkLine_98 : decode cX4_linkLine 98 = .ok (.iload 4, 2) := by decide +kernel
theorem dX4_linkLine_100 : decode cX4_linkLine 100 = .ok (.dup2, 1) := by decide +kernel
theorem dX4_linkLine_101 : decode cX4_linkLine 101 = .ok (.iaload, 1) := by decide +kernel
theorem dX4_linkLine_102 : decode cX4_linkLine 102 = .ok (.iconst 1, 1) := by decide +kernel
theorem dX4_linkLine_103 : decode cX4_linkLine 103 = .ok (.iload 5, 2) := by decide +kernel
theorem dX4_linkLine_105 : decode cX4_linkLine 105 = .ok (.ishl, 1) := by decide +kernel
theorem dX4_linkLine_106 : decode cX4_linkLine 106 = .ok (.ior, 1) := by decide +kernel
theorem dX4_linkLine_107 : decode cX4_linkLine 107 = .ok (.iastore, 1) := by decide +kernel
theorem dX4_linkLine_108 : decode cX4_linkLine 108 = .ok (.iconst 1, 1) := by decide +kernel
theorem dX4_linkLine_109 : decode cX4_linkLine 109 = .ok (.ireturn, 1) := by decide +kernel
theorem dX4_pairLine_0 : decode cX4_pairLine 0 = .ok (.aload_n 0, 1) := by decide +kernel
theorem dX4_pairLine_1 : decode cX4_pairLine 1 = .ok (.getfield 19, 3) := by decide +kernel
theorem dX4_pairLine_4 : decode cX4_pairLine 4 = .ok (.getfield 162, 3) := by decide +kernel
theorem dX4_pairLine_7 : decode cX4_pairLine 7 = .ok (.iconst 5, 1) := by decide +kernel
theorem dX4_pairLine_8 : decode cX4_pairLine 8 = .ok (.if_icmp .lt 9, 3) := by decide +kernel
theorem dX4_pairLine_11 : decode cX4_pairLine 11 = .ok (.aload_n 0, 1) := by decide +kernel
theorem dX4_pairLine_12 : decode cX4_pairLine 12 = .ok (.iconst 2, 1) := by decide +kernel
theorem dX4_pairLine_13 : decode cX4_pairLine 13 = .ok (.invokevirtual 42, 3) := by decide +kernel
theorem dX4_pairLine_16 : decode cX4_pairLine 16 = .ok (.ireturn, 1) := by decide +kernel
theorem dX4_pairLine_17 : decode cX4_pairLine 17 = .ok (.aload_n 0, 1) := by decide +kernel
theorem dX4_pairLine_18 : decode cX4_pairLine 18 = .ok (.getfield 15, 3) := by decide +kernel
theorem dX4_pairLine_21 : decode cX4_pairLine 21 = .ok (.invokevirtual 93, 3) := by decide +kernel
theorem dX4_pairLine_24 : decode cX4_pairLine 24 = .ok (.aload_n 0, 1) := by decide +kernel
theorem dX4_pairLine_25 : decode cX4_pairLine 25 = .ok (.iconst 0, 1) := by decide +kernel
theorem dX4_pairLine_26 : decode cX4_pairLine 26 = .ok (.invokevirtual 137, 3) := by decide +kernel
theorem dX4_pairLine_29 : decode cX4_pairLine 29 = .ok (.istore_n 1, 1) := by decide +kernel
theorem dX4_pairLine_30 : decode cX4_pairLine 30 = .ok (.iload_n 1, 1) := by decide +kernel
theorem dX4_pairLine_31 : decode cX4_pairLine 31 = .ok (.iconst (-1), 1) := by decide +kernel
theorem dX4_pairLine_32 : decode cX4_pairLine 32 = .ok (.if_icmp .ne 5, 3) := by decide +kernel
theorem dX4_pairLine_35 : decode cX4_pairLine 35 = .ok (.iconst 0, 1) := by decide +kernel
theorem dX4_pairLine_36 : decode cX4_pairLine 36 = .ok (.ireturn, 1) := by decide +kernel
theorem dX4_pairLine_37 : decode cX4_pairLine 37 = .ok (.aload_n 0, 1) := by decide +kernel
theorem dX4_pairLine_38 : decode cX4_pairLine 38 = .ok (.aload_n 0, 1) := by decide +kernel
theorem dX4_pairLine_39 : decode cX4_pairLine 39 = .ok (.getfield 19, 3) := by decide +kernel
theorem dX4_pairLine_42 : decode cX4_pairLine 42 = .ok (.iload_n 1, 1) := by decide +kernel
theorem dX4_pairLine_43 : decode cX4_pairLine 43 = .ok (.invokevirtual 165, 3) := by decide +kernel
theorem dX4_pairLine_46 : decode cX4_pairLine 46 = .ok (.iconst 1, 1) := by decide +kernel
theorem dX4_pairLine_47 : decode cX4_pairLine 47 = .ok (.iload_n 1, 1) := by decide +kernel
theorem dX4_pairLine_48 : decode cX4_pairLine 48 = .ok (.ishl, 1) := by decide +kernel
theorem dX4_pairLine_49 : decode cX4_pairLine 49 = .ok (.ior, 1) := by decide +kernel
theorem dX4_pairLine_50 : decode cX4_pairLine 50 = .ok (.invokevirtual 137, 3) := by decide +kernel
theorem dX4_pairLine_53 : decode cX4_pairLine 53 = .ok (.istore_n 2, 1) := by decide +kernel
theorem dX4_pairLine_54 : decode cX4_pairLine 54 = .ok (.iload_n 2, 1) := by decide +kernel
theorem dX4_pairLine_55 : decode cX4_pairLine 55 = .ok (.iconst (-1), 1) := by decide +kernel
theorem dX4_pairLine_56 : decode cX4_pairLine 56 = .ok (.if_icmp .eq 16, 3) := by decide +kernel
theorem dX4_pairLine_59 : decode cX4_pairLine 59 = .ok (.aload_n 0, 1) := by decide +kernel
theorem dX4_pairLine_60 : decode cX4_pairLine 60 = .ok (.iload_n 1, 1) := by decide +kernel
theorem dX4_pairLine_61 : decode cX4_pairLine 61 = .ok (.iload_n 2, 1) := by decide +kernel
theorem dX4_pairLine_62 : decode cX4_pairLine 62 = .ok (.invokevirtual 168, 3) := by decide +kernel
theorem dX4_pairLine_65 : decode cX4_pairLine 65 = .ok (.ifCond .eq 7, 3) := by decide +kernel
theorem dX4_pairLine_68 : decode cX4_pairLine 68 = .ok (.iconst 1, 1) := by decide +kernel
theorem dX4_pairLine_69 : decode cX4_pairLine 69 = .ok (.goto 4, 3) := by decide +kernel
theorem dX4_pairLine_72 : decode cX4_pairLine 72 = .ok (.iconst 0, 1) := by decide +kernel
theorem dX4_pairLine_73 : decode cX4_pairLine 73 = .ok (.ireturn, 1) := by decide +kernel
theorem dX4_pairPlaces_0 : decode cX4_pairPlaces 0 = .ok (.aload_n 0, 1) := by decide +kernel
theorem dX4_pairPlaces_1 : decode cX4_pairPlaces 1 = .ok (.getfield 15, 3) := by decide +kernel
theorem dX4_pairPlaces_4 : decode cX4_pairPlaces 4 = .ok (.bipush 10, 2) := by decide +kernel
theorem dX4_pairPlaces_6 : decode cX4_pairPlaces 6 = .ok (.invokevirtual 134, 3) := by decide +kernel
theorem dX4_pairPlaces_9 : decode cX4_pairPlaces 9 = .ok (.ifCond .ne 32, 3) := by decide +kernel
theorem dX4_pairPlaces_12 : decode cX4_pairPlaces 12 = .ok (.aload_n 0, 1) := by decide +kernel
theorem dX4_pairPlaces_13 : decode cX4_pairPlaces 13 = .ok (.getfield 19, 3) := by decide +kernel
theorem dX4_pairPlaces_16 : decode cX4_pairPlaces 16 = .ok (.iload_n 1, 1) := by decide +kernel
theorem dX4_pairPlaces_17 : decode cX4_pairPlaces 17 = .ok (.iload_n 2, 1) := by decide +kernel
theorem dX4_pairPlaces_18 : decode cX4_pairPlaces 18 = .ok (.aload_n 0, 1) := by decide +kernel
theorem dX4_pairPlaces_19 : decode cX4_pairPlaces 19 = .ok (.getfield 19, 3) := by decide +kernel
theorem dX4_pairPlaces_22 : decode cX4_pairPlaces 22 = .ok (.getfield 171, 3) := by decide +kernel
theorem dX4_pairPlaces_25 : decode cX4_pairPlaces 25 = .ok (.iload_n 1, 1) := by decide +kernel
theorem dX4_pairPlaces_26 : decode cX4_pairPlaces 26 = .ok (.iaload, 1) := by decide +kernel
theorem dX4_pairPlaces_27 : decode cX4_pairPlaces 27 = .ok (.aload_n 0, 1) := by decide +kernel
theorem dX4_pairPlaces_28 : decode cX4_pairPlaces 28 = .ok (.getfield 19, 3) := by decide +kernel
theorem dX4_pairPlaces_31 : decode cX4_pairPlaces 31 = .ok (.getfield 171, 3) := by decide +kernel
theorem dX4_pairPlaces_34 : decode cX4_pairPlaces 34 = .ok (.iload_n 2, 1) := by decide +kernel
theorem dX4_pairPlaces_35 : decode cX4_pairPlaces 35 = .ok (.iaload, 1) := by decide +kernel
theorem dX4_pairPlaces_36 : decode cX4_pairPlaces 36 = .ok (.invokevirtual 174, 3) := by decide +kernel
theorem dX4_pairPlaces_39 : decode cX4_pairPlaces 39 = .ok (.iconst 1, 1) := by decide +kernel
theorem dX4_pairPlaces_40 : decode cX4_pairPlaces 40 = .ok (.ireturn, 1) := by decide +kernel
theorem dX4_pairPlaces_41 : decode cX4_pairPlaces 41 = .ok (.aload_n 0, 1) := by decide +kernel
theorem dX4_pairPlaces_42 : decode cX4_pairPlaces 42 = .ok (.getfield 15, 3) := by decide +kernel
theorem dX4_pairPlaces_45 : decode cX4_pairPlaces 45 = .ok (.invokevirtual 93, 3) := by decide +kernel
theorem dX4_pairPlaces_48 : decode cX4_pairPlaces 48 = .ok (.aload_n 0, 1) := by decide +kernel
theorem dX4_pairPlaces_49 : decode cX4_pairPlaces 49 = .ok (.invokevirtual 120, 3) := by decide +kernel
theorem dX4_pairPlaces_52 : decode cX4_pairPlaces 52 = .ok (.istore_n 3, 1) := by decide +kernel
theorem dX4_pairPlaces_53 : decode cX4_pairPlaces 53 = .ok (.iload_n 3, 1) := by decide +kernel
theorem dX4_pairPlaces_54 : decode cX4_pairPlaces 54 = .ok (.iconst (-1), 1) := by decide +kernel
theorem dX4_pairPlaces_55 : decode cX4_pairPlaces 55 = .ok (.if_icmp .ne 5, 3) := by decide +kernel
theorem dX4_pairPlaces_58 : decode cX4_pairPlaces 58 = .ok (.iconst 0, 1) := by decide +kernel
theorem dX4_pairPlaces_59 : decode cX4_pairPlaces 59 = .ok (.ireturn, 1) := by decide +kernel
theorem dX4_pairPlaces_60 : decode cX4_pairPlaces 60 = .ok (.aload_n 0, 1) := by decide +kernel
theorem dX4_pairPlaces_61 : decode cX4_pairPlaces 61 = .ok (.invokevirtual 120, 3) := by decide +kernel
theorem dX4_pairPlaces_64 : decode cX4_pairPlaces 64 = .ok (.istore 4, 2) := by decide +kernel
theorem dX4_pairPlaces_66 : decode cX4_pairPlaces 66 = .ok (.iload 4, 2) := by decide +kernel
theorem dX4_pairPlaces_68 : decode cX4_pairPlaces 68 = .ok (.iconst (-1), 1) := by decide +kernel
theorem dX4_pairPlaces_69 : decode cX4_pairPlaces 69 = .ok (.if_icmp .ne 5, 3) := by decide +kernel
theorem dX4_pairPlaces_72 : decode cX4_pairPlaces 72 = .ok (.iconst 0, 1) := by decide +kernel
theorem dX4_pairPlaces_73 : decode cX4_pairPlaces 73 = .ok (.ireturn, 1) := by decide +kernel
theorem dX4_pairPlaces_74 : decode cX4_pairPlaces 74 = .ok (.aload_n 0, 1) := by decide +kernel
theorem dX4_pairPlaces_75 : decode cX4_pairPlaces 75 = .ok (.getfield 19, 3) := by decide +kernel
theorem dX4_pairPlaces_78 : decode cX4_pairPlaces 78 = .ok (.iload_n 1, 1) := by decide +kernel
theorem dX4_pairPlaces_79 : decode cX4_pairPlaces 79 = .ok (.iload_n 2, 1) := by decide +kernel
theorem dX4_pairPlaces_80 : decode cX4_pairPlaces 80 = .ok (.iload_n 3, 1) := by decide +kernel
theorem dX4_pairPlaces_81 : decode cX4_pairPlaces 81 = .ok (.iload 4, 2) := by decide +kernel
theorem dX4_pairPlaces_83 : decode cX4_pairPlaces 83 = .ok (.invokevirtual 174, 3) := by decide +kernel
theorem dX4_pairPlaces_86 : decode cX4_pairPlaces 86 = .ok (.iconst 1, 1) := by decide +kernel
theorem dX4_pairPlaces_87 : decode cX4_pairPlaces 87 = .ok (.ireturn, 1) := by decide +kernel
theorem dX4_settingLine_0 : decode cX4_settingLine 0 = .ok (.aload_n 0, 1) := by decide +kernel
theorem dX4_settingLine_1 : decode cX4_settingLine 1 = .ok (.getfield 15, 3) := by decide +kernel
theorem dX4_settingLine_4 : decode cX4_settingLine 4 = .ok (.getfield 46, 3) := by decide +kernel
theorem dX4_settingLine_7 : decode cX4_settingLine 7 = .ok (.istore_n 3, 1) := by decide +kernel
theorem dX4_settingLine_8 : decode cX4_settingLine 8 = .ok (.aload_n 0, 1) := by decide +kernel
theorem dX4_settingLine_9 : decode cX4_settingLine 9 = .ok (.iload_n 3, 1) := by decide +kernel
theorem dX4_settingLine_10 : decode cX4_settingLine 10 = .ok (.invokevirtual 178, 3) := by decide +kernel
theorem dX4_settingLine_13 : decode cX4_settingLine 13 = .ok (.ifCond .ne 5, 3) := by decide +kernel
theorem dX4_settingLine_16 : decode cX4_settingLine 16 = .ok (.iconst 0, 1) := by decide +kernel
theorem dX4_settingLine_17 : decode cX4_settingLine 17 = .ok (.ireturn, 1) := by decide +kernel
theorem dX4_settingLine_18 : decode cX4_settingLine 18 = .ok (.aload_n 0, 1) := by decide +kernel
theorem dX4_settingLine_19 : decode cX4_settingLine 19 = .ok (.getfield 15, 3) := by decide +kernel
theorem dX4_settingLine_22 : decode cX4_settingLine 22 = .ok (.invokevirtual 93, 3) := by decide +kernel
theorem dX4_settingLine_25 : decode cX4_settingLine 25 = .ok (.aload_n 0, 1) := by decide +kernel
theorem dX4_settingLine_26 : decode cX4_settingLine 26 = .ok (.iload_n 1, 1) := by decide +kernel
theorem dX4_settingLine_27 : decode cX4_settingLine 27 = .ok (.iload_n 2, 1) := by decide +kernel
theorem dX4_settingLine_28 : decode cX4_settingLine 28 = .ok (.invokevirtual 150, 3) := by decide +kernel
theorem dX4_settingLine_31 : decode cX4_settingLine 31 = .ok (.istore 4, 2) := by decide +kernel
theorem dX4_settingLine_33 : decode cX4_settingLine 33 = .ok (.iload 4, 2) := by decide +kernel
theorem dX4_settingLine_35 : decode cX4_settingLine 35 = .ok (.iconst (-1), 1) := by decide +kernel
theorem dX4_settingLine_36 : decode cX4_settingLine 36 = .ok (.if_icmp .ne 5, 3) := by decide +kernel
theorem dX4_settingLine_39 : decode cX4_settingLine 39 = .ok (.iconst 0, 1) := by decide +kernel
theorem dX4_settingLine_40 : decode cX4_settingLine 40 = .ok (.ireturn, 1) := by decide +kernel
theorem dX4_settingLine_41 : decode cX4_settingLine 41 = .ok (.aload_n 0, 1) := by decide +kernel
theorem dX4_settingLine_42 : decode cX4_settingLine 42 = .ok (.getfield 19, 3) := by decide +kernel
theorem dX4_settingLine_45 : decode cX4_settingLine 45 = .ok (.iload_n 3, 1) := by decide +kernel
theorem dX4_settingLine_46 : decode cX4_settingLine 46 = .ok (.iload 4, 2) := by decide +kernel
theorem dX4_settingLine_48 : decode cX4_settingLine 48 = .ok (.invokevirtual 181, 3) := by decide +kernel
theorem dX4_settingLine_51 : decode cX4_settingLine 51 = .ok (.iconst 1, 1) := by decide +kernel
theorem dX4_settingLine_52 : decode cX4_settingLine 52 = .ok (.ireturn, 1) := by decide +kernel
theorem dX4_hearsLine_0 : decode cX4_hearsLine 0 = .ok (.aload_n 0, 1) := by decide +kernel
theorem dX4_hearsLine_1 : decode cX4_hearsLine 1 = .ok (.bipush 11, 2) := by decide +kernel
theorem dX4_hearsLine_3 : decode cX4_hearsLine 3 = .ok (.invokevirtual 178, 3) := by decide +kernel
theorem dX4_hearsLine_6 : decode cX4_hearsLine 6 = .ok (.ifCond .ne 5, 3) := by decide +kernel
theorem dX4_hearsLine_9 : decode cX4_hearsLine 9 = .ok (.iconst 0, 1) := by decide +kernel
theorem dX4_hearsLine_10 : decode cX4_hearsLine 10 = .ok (.ireturn, 1) := by decide +kernel
theorem dX4_hearsLine_11 : decode cX4_hearsLine 11 = .ok (.aload_n 0, 1) := by decide +kernel
theorem dX4_hearsLine_12 : decode cX4_hearsLine 12 = .ok (.getfield 15, 3) := by decide +kernel
theorem dX4_hearsLine_15 : decode cX4_hearsLine 15 = .ok (.invokevirtual 93, 3) := by decide +kernel
theorem dX4_hearsLine_18 : decode cX4_hearsLine 18 = .ok (.aload_n 0, 1) := by decide +kernel
theorem dX4_hearsLine_19 : decode cX4_hearsLine 19 = .ok (.iconst 0, 1) := by decide +kernel
theorem dX4_hearsLine_20 : decode cX4_hearsLine 20 = .ok (.invokevirtual 185, 3) := by decide +kernel
theorem dX4_hearsLine_23 : decode cX4_hearsLine 23 = .ok (.ireturn, 1) := by decide +kernel
theorem dX4_isFirst_0 : decode cX4_isFirst 0 = .ok (.aload_n 0, 1) := by decide +kernel
theorem dX4_isFirst_1 : decode cX4_isFirst 1 = .ok (.getfield 28, 3) := by decide +kernel
theorem dX4_isFirst_4 : decode cX4_isFirst 4 = .ok (.iload_n 1, 1) := by decide +kernel
theorem dX4_isFirst_5 : decode cX4_isFirst 5 = .ok (.ishr, 1) := by decide +kernel
theorem dX4_isFirst_6 : decode cX4_isFirst 6 = .ok (.iconst 1, 1) := by decide +kernel
theorem dX4_isFirst_7 : decode cX4_isFirst 7 = .ok (.iand, 1) := by decide +kernel
theorem dX4_isFirst_8 : decode cX4_isFirst 8 = .ok (.iconst 1, 1) := by decide +kernel
theorem dX4_isFirst_9 : decode cX4_isFirst 9 = .ok (.if_icmp .ne 9, 3) := by decide +kernel
theorem dX4_isFirst_12 : decode cX4_isFirst 12 = .ok (.aload_n 0, 1) := by decide +kernel
theorem dX4_isFirst_13 : decode cX4_isFirst 13 = .ok (.iconst 2, 1) := by decide +kernel
theorem dX4_isFirst_14 : decode cX4_isFirst 14 = .ok (.invokevirtual 42, 3) := by decide +kernel
theorem dX4_isFirst_17 : decode cX4_isFirst 17 = .ok (.ireturn, 1) := by decide +kernel
theorem dX4_isFirst_18 : decode cX4_isFirst 18 = .ok (.aload_n 0, 1) := by decide +kernel
theorem dX4_isFirst_19 : decode cX4_isFirst 19 = .ok (.dup, 1) := by decide +kernel
theorem dX4_isFirst_20 : decode cX4_isFirst 20 = .ok (.getfield 28, 3) := by decide +kernel
theorem dX4_isFirst_23 : decode cX4_isFirst 23 = .ok (.iconst 1, 1) := by decide +kernel
theorem dX4_isFirst_24 : decode cX4_isFirst 24 = .ok (.iload_n 1, 1) := by decide +kernel
theorem dX4_isFirst_25 : decode cX4_isFirst 25 = .ok (.ishl, 1) := by decide +kernel
theorem dX4_isFirst_26 : decode cX4_isFirst 26 = .ok (.ior, 1) := by decide +kernel
theorem dX4_isFirst_27 : decode cX4_isFirst 27 = .ok (.putfield 28, 3) := by decide +kernel
theorem dX4_isFirst_30 : decode cX4_isFirst 30 = .ok (.iconst 1, 1) := by decide +kernel
theorem dX4_isFirst_31 : decode cX4_isFirst 31 = .ok (.ireturn, 1) := by decide +kernel
theorem dX4_isNewName_0 : decode cX4_isNewName 0 = .ok (.aload_n 0, 1) := by decide +kernel
theorem dX4_isNewName_1 : decode cX4_isNewName 1 = .ok (.getfield 15, 3) := by decide +kernel
theorem dX4_isNewName_4 : decode cX4_isNewName 4 = .ok (.getfield 39, 3) := by decide +kernel
theorem dX4_isNewName_7 : decode cX4_isNewName 7 = .ok (.iconst 2, 1) := by decide +kernel
theorem dX4_isNewName_8 : decode cX4_isNewName 8 = .ok (.if_icmp .eq 9, 3) := by decide +kernel
theorem dX4_isNewName_11 : decode cX4_isNewName 11 = .ok (.aload_n 0, 1) := by decide +kernel
theorem dX4_isNewName_12 : decode cX4_isNewName 12 = .ok (.iconst 2, 1) := by decide +kernel
theorem dX4_isNewName_13 : decode cX4_isNewName 13 = .ok (.invokevirtual 42, 3) := by decide +kernel
theorem dX4_isNewName_16 : decode cX4_isNewName 16 = .ok (.ireturn, 1) := by decide +kernel
theorem dX4_isNewName_17 : decode cX4_isNewName 17 = .ok (.iload_n 1, 1) := by decide +kernel
theorem dX4_isNewName_18 : decode cX4_isNewName 18 = .ok (.iconst (-1), 1) := by decide +kernel
theorem dX4_isNewName_19 : decode cX4_isNewName 19 = .ok (.if_icmp .eq 11, 3) := by decide +kernel
theorem dX4_isNewName_22 : decode cX4_isNewName 22 = .ok (.aload_n 0, 1) := by decide +kernel
theorem dX4_isNewName_23 : decode cX4_isNewName 23 = .ok (.iconst 3, 1) := by decide +kernel
theorem dX4_isNewName_24 : decode cX4_isNewName 24 = .ok (.invokevirtual 42, 3) := by decide +kernel
theorem dX4_isNewName_27 : decode cX4_isNewName 27 = .ok (.ifCond .eq 7, 3) := by decide +kernel
theorem dX4_isNewName_30 : decode cX4_isNewName 30 = .ok (.iconst 1, 1) := by decide +kernel
theorem dX4_isNewName_31 : decode cX4_isNewName 31 = .ok (.goto 4, 3) := by decide +kernel
theorem dX4_isNewName_34 : decode cX4_isNewName 34 = .ok (.iconst 0, 1) := by decide +kernel
theorem dX4_isNewName_35 : decode cX4_isNewName 35 = .ok (.ireturn, 1) := by decide +kernel
theorem dX4_takePerson_0 : decode cX4_takePerson 0 = .ok (.aload_n 0, 1) := by decide +kernel
theorem dX4_takePerson_1 : decode cX4_takePerson 1 = .ok (.aload_n 0, 1) := by decide +kernel
theorem dX4_takePerson_2 : decode cX4_takePerson 2 = .ok (.getfield 19, 3) := by decide +kernel
theorem dX4_takePerson_5 : decode cX4_takePerson 5 = .ok (.aload_n 0, 1) := by decide +kernel
theorem dX4_takePerson_6 : decode cX4_takePerson 6 = .ok (.getfield 15, 3) := by decide +kernel
theorem dX4_takePerson_9 : decode cX4_takePerson 9 = .ok (.getfield 96, 3) := by decide +kernel
theorem dX4_takePerson_12 : decode cX4_takePerson 12 = .ok (.invokevirtual 114, 3) := by decide +kernel
theorem dX4_takePerson_15 : decode cX4_takePerson 15 = .ok (.invokevirtual 188, 3) := by decide +kernel
theorem dX4_takePerson_18 : decode cX4_takePerson 18 = .ok (.istore_n 2, 1) := by decide +kernel
theorem dX4_takePerson_19 : decode cX4_takePerson 19 = .ok (.iload_n 2, 1) := by decide +kernel
theorem dX4_takePerson_20 : decode cX4_takePerson 20 = .ok (.iconst (-1), 1) := by decide +kernel
theorem dX4_takePerson_21 : decode cX4_takePerson 21 = .ok (.if_icmp .ne 5, 3) := by decide +kernel
theorem dX4_takePerson_24 : decode cX4_takePerson 24 = .ok (.iconst (-1), 1) := by decide +kernel
theorem dX4_takePerson_25 : decode cX4_takePerson 25 = .ok (.ireturn, 1) := by decide +kernel
theorem dX4_takePerson_26 : decode cX4_takePerson 26 = .ok (.iload_n 1, 1) := by decide +kernel
theorem dX4_takePerson_27 : decode cX4_takePerson 27 = .ok (.iload_n 2, 1) := by decide +kernel
theorem dX4_takePerson_28 : decode cX4_takePerson 28 = .ok (.ishr, 1) := by decide +kernel
theorem dX4_takePerson_29 : decode cX4_takePerson 29 = .ok (.iconst 1, 1) := by decide +kernel
theorem dX4_takePerson_30 : decode cX4_takePerson 30 = .ok (.iand, 1) := by decide +kernel
theorem dX4_takePerson_31 : decode cX4_takePerson 31 = .ok (.iconst 1, 1) := by decide +kernel
theorem dX4_takePerson_32 : decode cX4_takePerson 32 = .ok (.if_icmp .ne 11, 3) := by decide +kernel
theorem dX4_takePerson_35 : decode cX4_takePerson 35 = .ok (.aload_n 0, 1) := by decide +kernel
theorem dX4_takePerson_36 : decode cX4_takePerson 36 = .ok (.iconst 3, 1) := by decide +kernel
theorem dX4_takePerson_37 : decode cX4_takePerson 37 = .ok (.invokevirtual 42, 3) := by decide +kernel
theorem dX4_takePerson_40 : decode cX4_takePerson 40 = .ok (.pop, 1) := by decide +kernel
theorem dX4_takePerson_41 : decode cX4_takePerson 41 = .ok (.iconst (-1), 1) := by decide +kernel
theorem dX4_takePerson_42 : decode cX4_takePerson 42 = .ok (.ireturn, 1) := by decide +kernel
theorem dX4_takePerson_43 : decode cX4_takePerson 43 = .ok (.aload_n 0, 1) := by decide +kernel
theorem dX4_takePerson_44 : decode cX4_takePerson 44 = .ok (.getfield 15, 3) := by decide +kernel
theorem dX4_takePerson_47 : decode cX4_takePerson 47 = .ok (.invokevirtual 93, 3) := by decide +kernel
theorem dX4_takePerson_50 : decode cX4_takePerson 50 = .ok (.iload_n 2, 1) := by decide +kernel
theorem dX4_takePerson_51 : decode cX4_takePerson 51 = .ok (.ireturn, 1) := by decide +kernel
theorem dX4_takeChurch_0 : decode cX4_takeChurch 0 = .ok (.aload_n 0, 1) := by decide +kernel
theorem dX4_takeChurch_1 : decode cX4_takeChurch 1 = .ok (.aload_n 0, 1) := by decide +kernel
theorem dX4_takeChurch_2 : decode cX4_takeChurch 2 = .ok (.getfield 19, 3) := by decide +kernel
theorem dX4_takeChurch_5 : decode cX4_takeChurch 5 = .ok (.aload_n 0, 1) := by decide +kernel
theorem dX4_takeChurch_6 : decode cX4_takeChurch 6 = .ok (.getfield 15, 3) := by decide +kernel
theorem dX4_takeChurch_9 : decode cX4_takeChurch 9 = .ok (.getfield 96, 3) := by decide +kernel
theorem dX4_takeChurch_12 : decode cX4_takeChurch 12 = .ok (.invokevirtual 100, 3) := by decide +kernel
theorem dX4_takeChurch_15 : decode cX4_takeChurch 15 = .ok (.invokevirtual 188, 3) := by decide +kernel
theorem dX4_takeChurch_18 : decode cX4_takeChurch 18 = .ok (.istore_n 1, 1) := by decide +kernel
theorem dX4_takeChurch_19 : decode cX4_takeChurch 19 = .ok (.iload_n 1, 1) := by decide +kernel
theorem dX4_takeChurch_20 : decode cX4_takeChurch 20 = .ok (.iconst (-1), 1) := by decide +kernel
theorem dX4_takeChurch_21 : decode cX4_takeChurch 21 = .ok (.if_icmp .eq 10, 3) := by decide +kernel
theorem dX4_takeChurch_24 : decode cX4_takeChurch 24 = .ok (.aload_n 0, 1) := by decide +kernel
theorem dX4_takeChurch_25 : decode cX4_takeChurch 25 = .ok (.getfield 15, 3) := by decide +kernel
theorem dX4_takeChurch_28 : decode cX4_takeChurch 28 = .ok (.invokevirtual 93, 3) := by decide +kernel
theorem dX4_takeChurch_31 : decode cX4_takeChurch 31 = .ok (.iload_n 1, 1) := by decide +kernel
theorem dX4_takeChurch_32 : decode cX4_takeChurch 32 = .ok (.ireturn, 1) := by decide +kernel
theorem dX4_nameHere_0 : decode cX4_nameHere 0 = .ok (.aload_n 0, 1) := by decide +kernel
theorem dX4_nameHere_1 : decode cX4_nameHere 1 = .ok (.getfield 15, 3) := by decide +kernel
theorem dX4_nameHere_4 : decode cX4_nameHere 4 = .ok (.getfield 39, 3) := by decide +kernel
theorem dX4_nameHere_7 : decode cX4_nameHere 7 = .ok (.iconst 2, 1) := by decide +kernel
theorem dX4_nameHere_8 : decode cX4_nameHere 8 = .ok (.if_icmp .eq 11, 3) := by decide +kernel
theorem dX4_nameHere_11 : decode cX4_nameHere 11 = .ok (.aload_n 0, 1) := by decide +kernel
theorem dX4_nameHere_12 : decode cX4_nameHere 12 = .ok (.iconst 2, 1) := by decide +kernel
theorem dX4_nameHere_13 : decode cX4_nameHere 13 = .ok (.invokevirtual 42, 3) := by decide +kernel
theorem dX4_nameHere_16 : decode cX4_nameHere 16 = .ok (.pop, 1) := by decide +kernel
theorem dX4_nameHere_17 : decode cX4_nameHere 17 = .ok (.iconst (-1), 1) := by decide +kernel
theorem dX4_nameHere_18 : decode cX4_nameHere 18 = .ok (.ireturn, 1) := by decide +kernel
theorem dX4_nameHere_19 : decode cX4_nameHere 19 = .ok (.iload_n 1, 1) := by decide +kernel
theorem dX4_nameHere_20 : decode cX4_nameHere 20 = .ok (.iconst (-1), 1) := by decide +kernel
theorem dX4_nameHere_21 : decode cX4_nameHere 21 = .ok (.if_icmp .ne 9, 3) := by decide +kernel
theorem dX4_nameHere_24 : decode cX4_nameHere 24 = .ok (.aload_n 0, 1) := by decide +kernel
theorem dX4_nameHere_25 : decode cX4_nameHere 25 = .ok (.iconst 5, 1) := by decide +kernel
theorem dX4_nameHere_26 : decode cX4_nameHere 26 = .ok (.invokevirtual 42, 3) := by decide +kernel
theorem dX4_nameHere_29 : decode cX4_nameHere 29 = .ok (.pop, 1) := by decide +kernel
theorem dX4_nameHere_30 : decode cX4_nameHere 30 = .ok (.iload_n 1, 1) := by decide +kernel
theorem dX4_nameHere_31 : decode cX4_nameHere 31 = .ok (.ireturn, 1) := by decide +kernel
theorem dX4_number_0 : decode cX4_number 0 = .ok (.aload_n 0, 1) := by decide +kernel
theorem dX4_number_1 : decode cX4_number 1 = .ok (.getfield 15, 3) := by decide +kernel
theorem dX4_number_4 : decode cX4_number 4 = .ok (.getfield 46, 3) := by decide +kernel
theorem dX4_number_7 : decode cX4_number 7 = .ok (.istore_n 3, 1) := by decide +kernel
theorem dX4_number_8 : decode cX4_number 8 = .ok (.aload_n 0, 1) := by decide +kernel
theorem dX4_number_9 : decode cX4_number 9 = .ok (.getfield 15, 3) := by decide +kernel
theorem dX4_number_12 : decode cX4_number 12 = .ok (.getfield 39, 3) := by decide +kernel
theorem dX4_number_15 : decode cX4_number 15 = .ok (.iconst 4, 1) := by decide +kernel
theorem dX4_number_16 : decode cX4_number 16 = .ok (.if_icmp .eq 11, 3) := by decide +kernel
theorem dX4_number_19 : decode cX4_number 19 = .ok (.aload_n 0, 1) := by decide +kernel
theorem dX4_number_20 : decode cX4_number 20 = .ok (.iconst 2, 1) := by decide +kernel
theorem dX4_number_21 : decode cX4_number 21 = .ok (.invokevirtual 42, 3) := by decide +kernel
theorem dX4_number_24 : decode cX4_number 24 = .ok (.pop, 1) := by decide +kernel
theorem dX4_number_25 : decode cX4_number 25 = .ok (.iconst (-1), 1) := by decide +kernel
theorem dX4_number_26 : decode cX4_number 26 = .ok (.ireturn, 1) := by decide +kernel
theorem dX4_number_27 : decode cX4_number 27 = .ok (.iload_n 3, 1) := by decide +kernel
theorem dX4_number_28 : decode cX4_number 28 = .ok (.iload_n 1, 1) := by decide +kernel
theorem dX4_number_29 : decode cX4_number 29 = .ok (.if_icmp .lt 8, 3) := by decide +kernel
theorem dX4_number_32 : decode cX4_number 32 = .ok (.iload_n 3, 1) := by decide +kernel
theorem dX4_number_33 : decode cX4_number 33 = .ok (.iload_n 2, 1) := by decide +kernel
theorem dX4_number_34 : decode cX4_number 34 = .ok (.if_icmp .le 11, 3) := by decide +kernel
theorem dX4_number_37 : decode cX4_number 37 = .ok (.aload_n 0, 1) := by decide +kernel
theorem dX4_number_38 : decode cX4_number 38 = .ok (.iconst 4, 1) := by decide +kernel
theorem dX4_number_39 : decode cX4_number 39 = .ok (.invokevirtual 42, 3) := by decide +kernel
theorem dX4_number_42 : decode cX4_number 42 = .ok (.pop, 1) := by decide +kernel
theorem dX4_number_43 : decode cX4_number 43 = .ok (.iconst (-1), 1) := by decide +kernel
theorem dX4_number_44 : decode cX4_number 44 = .ok (.ireturn, 1) := by decide +kernel
theorem dX4_number_45 : decode cX4_number 45 = .ok (.aload_n 0, 1) := by decide +kernel
theorem dX4_number_46 : decode cX4_number 46 = .ok (.getfield 15, 3) := by decide +kernel
theorem dX4_number_49 : decode cX4_number 49 = .ok (.invokevirtual 93, 3) := by decide +kernel
theorem dX4_number_52 : decode cX4_number 52 = .ok (.iload_n 3, 1) := by decide +kernel
theorem dX4_number_53 : decode cX4_number 53 = .ok (.ireturn, 1) := by decide +kernel
theorem dX4_word_0 : decode cX4_word 0 = .ok (.aload_n 0, 1) := by decide +kernel
theorem dX4_word_1 : decode cX4_word 1 = .ok (.getfield 15, 3) := by decide +kernel
theorem dX4_word_4 : decode cX4_word 4 = .ok (.iload_n 1, 1) := by decide +kernel
theorem dX4_word_5 : decode cX4_word 5 = .ok (.invokevirtual 134, 3) := by decide +kernel
theorem dX4_word_8 : decode cX4_word 8 = .ok (.ifCond .ne 9, 3) := by decide +kernel
theorem dX4_word_11 : decode cX4_word 11 = .ok (.aload_n 0, 1) := by decide +kernel
theorem dX4_word_12 : decode cX4_word 12 = .ok (.iconst 2, 1) := by decide +kernel
theorem dX4_word_13 : decode cX4_word 13 = .ok (.invokevirtual 42, 3) := by decide +kernel
theorem dX4_word_16 : decode cX4_word 16 = .ok (.ireturn, 1) := by decide +kernel
theorem dX4_word_17 : decode cX4_word 17 = .ok (.aload_n 0, 1) := by decide +kernel
theorem dX4_word_18 : decode cX4_word 18 = .ok (.getfield 15, 3) := by decide +kernel
theorem dX4_word_21 : decode cX4_word 21 = .ok (.invokevirtual 93, 3) := by decide +kernel
theorem dX4_word_24 : decode cX4_word 24 = .ok (.iconst 1, 1) := by decide +kernel
theorem dX4_word_25 : decode cX4_word 25 = .ok (.ireturn, 1) := by decide +kernel
theorem dX4_sign_0 : decode cX4_sign 0 = .ok (.aload_n 0, 1) := by decide +kernel
theorem dX4_sign_1 : decode cX4_sign 1 = .ok (.getfield 15, 3) := by decide +kernel
theorem dX4_sign_4 : decode cX4_sign 4 = .ok (.iload_n 1, 1) := by decide +kernel
theorem dX4_sign_5 : decode cX4_sign 5 = .ok (.invokevirtual 191, 3) := by decide +kernel
theorem dX4_sign_8 : decode cX4_sign 8 = .ok (.ifCond .ne 9, 3) := by decide +kernel
theorem dX4_sign_11 : decode cX4_sign 11 = .ok (.aload_n 0, 1) := by decide +kernel
theorem dX4_sign_12 : decode cX4_sign 12 = .ok (.iconst 2, 1) := by decide +kernel
theorem dX4_sign_13 : decode cX4_sign 13 = .ok (.invokevirtual 42, 3) := by decide +kernel
theorem dX4_sign_16 : decode cX4_sign 16 = .ok (.ireturn, 1) := by decide +kernel
theorem dX4_sign_17 : decode cX4_sign 17 = .ok (.aload_n 0, 1) := by decide +kernel
theorem dX4_sign_18 : decode cX4_sign 18 = .ok (.getfield 15, 3) := by decide +kernel
theorem dX4_sign_21 : decode cX4_sign 21 = .ok (.invokevirtual 93, 3) := by decide +kernel
theorem dX4_sign_24 : decode cX4_sign 24 = .ok (.iconst 1, 1) := by decide +kernel
theorem dX4_sign_25 : decode cX4_sign 25 = .ok (.ireturn, 1) := by decide +kernel
theorem dX4_either_0 : decode cX4_either 0 = .ok (.aload_n 0, 1) := by decide +kernel
theorem dX4_either_1 : decode cX4_either 1 = .ok (.iload_n 1, 1) := by decide +kernel
theorem dX4_either_2 : decode cX4_either 2 = .ok (.invokevirtual 194, 3) := by decide +kernel
theorem dX4_either_5 : decode cX4_either 5 = .ok (.istore_n 2, 1) := by decide +kernel
theorem dX4_either_6 : decode cX4_either 6 = .ok (.iconst 0, 1) := by decide +kernel
theorem dX4_either_7 : decode cX4_either 7 = .ok (.istore_n 3, 1) := by decide +kernel
theorem dX4_either_8 : decode cX4_either 8 = .ok (.iload_n 3, 1) := by decide +kernel
theorem dX4_either_9 : decode cX4_either 9 = .ok (.sipush 1600, 3) := by decide +kernel
theorem dX4_either_12 : decode cX4_either 12 = .ok (.if_icmp .ge 50, 3) := by decide +kernel
theorem dX4_either_15 : decode cX4_either 15 = .ok (.iload_n 2, 1) := by decide +kernel
theorem dX4_either_16 : decode cX4_either 16 = .ok (.ifCond .eq 46, 3) := by decide +kernel
theorem dX4_either_19 : decode cX4_either 19 = .ok (.aload_n 0, 1) := by decide +kernel
theorem dX4_either_20 : decode cX4_either 20 = .ok (.getfield 15, 3) := by decide +kernel
theorem dX4_either_23 : decode cX4_either 23 = .ok (.bipush 15, 2) := by decide +kernel
theorem dX4_either_25 : decode cX4_either 25 = .ok (.invokevirtual 134, 3) := by decide +kernel
theorem dX4_either_28 : decode cX4_either 28 = .ok (.ifCond .eq 34, 3) := by decide +kernel
theorem dX4_either_31 : decode cX4_either 31 = .ok (.aload_n 0, 1) := by decide +kernel
theorem dX4_either_32 : decode cX4_either 32 = .ok (.getfield 15, 3) := by decide +kernel
theorem dX4_either_35 : decode cX4_either 35 = .ok (.invokevirtual 93, 3) := by decide +kernel
theorem dX4_either_38 : decode cX4_either 38 = .ok (.aload_n 0, 1) := by decide +kernel
theorem dX4_either_39 : decode cX4_either 39 = .ok (.iload_n 1, 1) := by decide +kernel
theorem dX4_either_40 : decode cX4_either 40 = .ok (.invokevirtual 194, 3) := by decide +kernel
theorem dX4_either_43 : decode cX4_either 43 = .ok (.istore_n 2, 1) := by decide +kernel
theorem dX4_either_44 : decode cX4_either 44 = .ok (.aload_n 0, 1) := by decide +kernel
theorem dX4_either_45 : decode cX4_either 45 = .ok (.getfield 19, 3) := by decide +kernel
theorem dX4_either_48 : decode cX4_either 48 = .ok (.getfield 197, 3) := by decide +kernel
theorem dX4_either_51 : decode cX4_either 51 = .ok (.bipush (-8), 2) := by decide +kernel
theorem dX4_either_53 : decode cX4_either 53 = .ok (.invokevirtual 203, 3) := by decide +kernel
theorem dX4_either_56 : decode cX4_either 56 = .ok (.iinc 3 1, 3) := by decide +kernel
theorem dX4_either_59 : decode cX4_either 59 = .ok (.goto (-51), 3) := by decide +kernel
theorem dX4_either_62 : decode cX4_either 62 = .ok (.iload_n 2, 1) := by decide +kernel
theorem dX4_either_63 : decode cX4_either 63 = .ok (.ireturn, 1) := by decide +kernel
theorem dX4_both_0 : decode cX4_both 0 = .ok (.aload_n 0, 1) := by decide +kernel
theorem dX4_both_1 : decode cX4_both 1 = .ok (.iload_n 1, 1) := by decide +kernel
theorem dX4_both_2 : decode cX4_both 2 = .ok (.invokevirtual 207, 3) := by decide +kernel
theorem dX4_both_5 : decode cX4_both 5 = .ok (.istore_n 2, 1) := by decide +kernel
theorem dX4_both_6 : decode cX4_both 6 = .ok (.iconst 0, 1) := by decide +kernel
theorem dX4_both_7 : decode cX4_both 7 = .ok (.istore_n 3, 1) := by decide +kernel
theorem dX4_both_8 : decode cX4_both 8 = .ok (.iload_n 3, 1) := by decide +kernel
theorem dX4_both_9 : decode cX4_both 9 = .ok (.sipush 1600, 3) := by decide +kernel
theorem dX4_both_12 : decode cX4_both 12 = .ok (.if_icmp .ge 49, 3) := by decide +kernel
theorem dX4_both_15 : decode cX4_both 15 = .ok (.iload_n 2, 1) := by decide +kernel
theorem dX4_both_16 : decode cX4_both 16 = .ok (.ifCond .eq 45, 3) := by decide +kernel
theorem dX4_both_19 : decode cX4_both 19 = .ok (.aload_n 0, 1) := by decide +kernel
theorem dX4_both_20 : decode cX4_both 20 = .ok (.getfield 15, 3) := by decide +kernel
theorem dX4_both_23 : decode cX4_both 23 = .ok (.iconst 4, 1) := by decide +kernel
theorem dX4_both_24 : decode cX4_both 24 = .ok (.invokevirtual 134, 3) := by decide +kernel
theorem dX4_both_27 : decode cX4_both 27 = .ok (.ifCond .eq 34, 3) := by decide +kernel
theorem dX4_both_30 : decode cX4_both 30 = .ok (.aload_n 0, 1) := by decide +kernel
theorem dX4_both_31 : decode cX4_both 31 = .ok (.getfield 15, 3) := by decide +kernel
theorem dX4_both_34 : decode cX4_both 34 = .ok (.invokevirtual 93, 3) := by decide +kernel
theorem dX4_both_37 : decode cX4_both 37 = .ok (.aload_n 0, 1) := by decide +kernel
theorem dX4_both_38 : decode cX4_both 38 = .ok (.iload_n 1, 1) := by decide +kernel
theorem dX4_both_39 : decode cX4_both 39 = .ok (.invokevirtual 207, 3) := by decide +kernel
theorem dX4_both_42 : decode cX4_both 42 = .ok (.istore_n 2, 1) := by decide +kernel
theorem dX4_both_43 : decode cX4_both 43 = .ok (.aload_n 0, 1) := by decide +kernel
theorem dX4_both_44 : decode cX4_both 44 = .ok (.getfield 19, 3) := by decide +kernel
theorem dX4_both_47 : decode cX4_both 47 = .ok (.getfield 197, 3) := by decide +kernel
theorem dX4_both_50 : decode cX4_both 50 = .ok (.bipush (-7), 2) := by decide +kernel
theorem dX4_both_52 : decode cX4_both 52 = .ok (.invokevirtual 203, 3) := by decide +kernel
theorem dX4_both_55 : decode cX4_both 55 = .ok (.iinc 3 1, 3) := by decide +kernel
theorem dX4_both_58 : decode cX4_both 58 = .ok (.goto (-50), 3) := by decide +kernel
theorem dX4_both_61 : decode cX4_both 61 = .ok (.iload_n 2, 1) := by decide +kernel
theorem dX4_both_62 : decode cX4_both 62 = .ok (.ireturn, 1) := by decide +kernel
theorem dX4_one_0 : decode cX4_one 0 = .ok (.aload_n 0, 1) := by decide +kernel
theorem dX4_one_1 : decode cX4_one 1 = .ok (.getfield 15, 3) := by decide +kernel
theorem dX4_one_4 : decode cX4_one 4 = .ok (.bipush 16, 2) := by decide +kernel
theorem dX4_one_6 : decode cX4_one 6 = .ok (.invokevirtual 134, 3) := by decide +kernel
theorem dX4_one_9 : decode cX4_one 9 = .ok (.ifCond .ne 9, 3) := by decide +kernel
theorem dX4_one_12 : decode cX4_one 12 = .ok (.aload_n 0, 1) := by decide +kernel
theorem dX4_one_13 : decode cX4_one 13 = .ok (.iload_n 1, 1) := by decide +kernel
theorem dX4_one_14 : decode cX4_one 14 = .ok (.invokevirtual 210, 3) := by decide +kernel
theorem dX4_one_17 : decode cX4_one 17 = .ok (.ireturn, 1) := by decide +kernel
theorem dX4_one_18 : decode cX4_one 18 = .ok (.iload_n 1, 1) := by decide +kernel
theorem dX4_one_19 : decode cX4_one 19 = .ok (.bipush 7, 2) := by decide +kernel
theorem dX4_one_21 : decode cX4_one 21 = .ok (.if_icmp .lt 9, 3) := by decide +kernel
theorem dX4_one_24 : decode cX4_one 24 = .ok (.aload_n 0, 1) := by decide +kernel
theorem dX4_one_25 : decode cX4_one 25 = .ok (.iconst 2, 1) := by decide +kernel
theorem dX4_one_26 : decode cX4_one 26 = .ok (.invokevirtual 42, 3) := by decide +kernel
theorem dX4_one_29 : decode cX4_one 29 = .ok (.ireturn, 1) := by decide +kernel
theorem dX4_one_30 : decode cX4_one 30 = .ok (.aload_n 0, 1) := by decide +kernel
theorem dX4_one_31 : decode cX4_one 31 = .ok (.getfield 15, 3) := by decide +kernel
theorem dX4_one_34 : decode cX4_one 34 = .ok (.invokevirtual 93, 3) := by decide +kernel
theorem dX4_one_37 : decode cX4_one 37 = .ok (.aload_n 0, 1) := by decide +kernel
theorem dX4_one_38 : decode cX4_one 38 = .ok (.iload_n 1, 1) := by decide +kernel
theorem dX4_one_39 : decode cX4_one 39 = .ok (.iconst 1, 1) := by decide +kernel
theorem dX4_one_40 : decode cX4_one 40 = .ok (.iadd, 1) := by decide +kernel
theorem dX4_one_41 : decode cX4_one 41 = .ok (.invokevirtual 207, 3) := by decide +kernel
theorem dX4_one_44 : decode cX4_one 44 = .ok (.istore_n 2, 1) := by decide +kernel
theorem dX4_one_45 : decode cX4_one 45 = .ok (.aload_n 0, 1) := by decide +kernel
theorem dX4_one_46 : decode cX4_one 46 = .ok (.getfield 19, 3) := by decide +kernel
theorem dX4_one_49 : decode cX4_one 49 = .ok (.getfield 197, 3) := by decide +kernel
theorem dX4_one_52 : decode cX4_one 52 = .ok (.bipush (-6), 2) := by decide +kernel
theorem dX4_one_54 : decode cX4_one 54 = .ok (.invokevirtual 203, 3) := by decide +kernel
theorem dX4_one_57 : decode cX4_one 57 = .ok (.iload_n 2, 1) := by decide +kernel
theorem dX4_one_58 : decode cX4_one 58 = .ok (.ireturn, 1) := by decide +kernel
theorem dX4_relation_0 : decode cX4_relation 0 = .ok (.aload_n 0, 1) := by decide +kernel
theorem dX4_relation_1 : decode cX4_relation 1 = .ok (.iload_n 1, 1) := by decide +kernel
theorem dX4_relation_2 : decode cX4_relation 2 = .ok (.invokevirtual 213, 3) := by decide +kernel
theorem dX4_relation_5 : decode cX4_relation 5 = .ok (.ifCond .ne 5, 3) := by decide +kernel
theorem dX4_relation_8 : decode cX4_relation 8 = .ok (.iconst 0, 1) := by decide +kernel
theorem dX4_relation_9 : decode cX4_relation 9 = .ok (.ireturn, 1) := by decide +kernel
theorem dX4_relation_10 : decode cX4_relation 10 = .ok (.aload_n 0, 1) := by decide +kernel
theorem dX4_relation_11 : decode cX4_relation 11 = .ok (.getfield 15, 3) := by decide +kernel
theorem dX4_relation_14 : decode cX4_relation 14 = .ok (.bipush 60, 2) := by decide +kernel
theorem dX4_relation_16 : decode cX4_relation 16 = .ok (.invokevirtual 191, 3) := by decide +kernel
theorem dX4_relation_19 : decode cX4_relation 19 = .ok (.ifCond .ne 29, 3) := by decide +kernel
theorem dX4_relation_22 : decode cX4_relation 22 = .ok (.aload_n 0, 1) := by decide +kernel
theorem dX4_relation_23 : decode cX4_relation 23 = .ok (.getfield 15, 3) := by decide +kernel
theorem dX4_relation_26 : decode cX4_relation 26 = .ok (.bipush 62, 2) := by decide +kernel
theorem dX4_relation_28 : decode cX4_relation 28 = .ok (.invokevirtual 191, 3) := by decide +kernel
theorem dX4_relation_31 : decode cX4_relation 31 = .ok (.ifCond .ne 17, 3) := by decide +kernel
theorem dX4_relation_34 : decode cX4_relation 34 = .ok (.aload_n 0, 1) := by decide +kernel
theorem dX4_relation_35 : decode cX4_relation 35 = .ok (.getfield 15, 3) := by decide +kernel
theorem dX4_relation_38 : decode cX4_relation 38 = .ok (.bipush 61, 2) := by decide +kernel
theorem dX4_relation_40 : decode cX4_relation 40 = .ok (.invokevirtual 191, 3) := by decide +kernel
theorem dX4_relation_43 : decode cX4_relation 43 = .ok (.ifCond .ne 5, 3) := by decide +kernel
theorem dX4_relation_46 : decode cX4_relation 46 = .ok (.iconst 1, 1) := by decide +kernel
theorem dX4_relation_47 : decode cX4_relation 47 = .ok (.ireturn, 1) := by decide +kernel
theorem dX4_relation_48 : decode cX4_relation 48 = .ok (.aload_n 0, 1) := by decide +kernel
theorem dX4_relation_49 : decode cX4_relation 49 = .ok (.getfield 15, 3) := by decide +kernel
theorem dX4_relation_52 : decode cX4_relation 52 = .ok (.getfield 46, 3) := by decide +kernel
theorem dX4_relation_55 : decode cX4_relation 55 = .ok (.istore_n 2, 1) := by decide +kernel
theorem dX4_relation_56 : decode cX4_relation 56 = .ok (.aload_n 0, 1) := by decide +kernel
theorem dX4_relation_57 : decode cX4_relation 57 = .ok (.getfield 15, 3) := by decide +kernel
theorem dX4_relation_60 : decode cX4_relation 60 = .ok (.invokevirtual 93, 3) := by decide +kernel
theorem dX4_relation_63 : decode cX4_relation 63 = .ok (.aload_n 0, 1) := by decide +kernel
theorem dX4_relation_64 : decode cX4_relation 64 = .ok (.iload_n 1, 1) := by decide +kernel
theorem dX4_relation_65 : decode cX4_relation 65 = .ok (.invokevirtual 213, 3) := by decide +kernel
theorem dX4_relation_68 : decode cX4_relation 68 = .ok (.istore_n 3, 1) := by decide +kernel
theorem dX4_relation_69 : decode cX4_relation 69 = .ok (.aload_n 0, 1) := by decide +kernel
theorem dX4_relation_70 : decode cX4_relation 70 = .ok (.getfield 19, 3) := by decide +kernel
theorem dX4_relation_73 : decode cX4_relation 73 = .ok (.getfield 197, 3) := by decide +kernel
theorem dX4_relation_76 : decode cX4_relation 76 = .ok (.iload_n 2, 1) := by decide +kernel
theorem dX4_relation_77 : decode cX4_relation 77 = .ok (.ineg, 1) := by decide +kernel
theorem dX4_relation_78 : decode cX4_relation 78 = .ok (.invokevirtual 203, 3) := by decide +kernel
theorem dX4_relation_81 : decode cX4_relation 81 = .ok (.iload_n 3, 1) := by decide +kernel
theorem dX4_relation_82 : decode cX4_relation 82 = .ok (.ireturn, 1) := by decide +kernel
theorem dX4_sum_0 : decode cX4_sum 0 = .ok (.aload_n 0, 1) := by decide +kernel
theorem dX4_sum_1 : decode cX4_sum 1 = .ok (.iload_n 1, 1) := by decide +kernel
theorem dX4_sum_2 : decode cX4_sum 2 = .ok (.invokevirtual 216, 3) := by decide +kernel
theorem dX4_sum_5 : decode cX4_sum 5 = .ok (.istore_n 2, 1) := by decide +kernel
theorem dX4_sum_6 : decode cX4_sum 6 = .ok (.iconst 0, 1) := by decide +kernel
theorem dX4_sum_7 : decode cX4_sum 7 = .ok (.istore_n 3, 1) := by decide +kernel
theorem dX4_sum_8 : decode cX4_sum 8 = .ok (.iload_n 3, 1) := by decide +kernel
theorem dX4_sum_9 : decode cX4_sum 9 = .ok (.sipush 1600, 3) := by decide +kernel
theorem dX4_sum_12 : decode cX4_sum 12 = .ok (.if_icmp .ge 72, 3) := by decide +kernel
theorem dX4_sum_15 : decode cX4_sum 15 = .ok (.iload_n 2, 1) := by decide +kernel
theorem dX4_sum_16 : decode cX4_sum 16 = .ok (.ifCond .eq 68, 3) := by decide +kernel
theorem dX4_sum_19 : decode cX4_sum 19 = .ok (.aload_n 0, 1) := by decide +kernel
theorem dX4_sum_20 : decode cX4_sum 20 = .ok (.getfield 15, 3) := by decide +kernel
theorem dX4_sum_23 : decode cX4_sum 23 = .ok (.bipush 43, 2) := by decide +kernel
theorem dX4_sum_25 : decode cX4_sum 25 = .ok (.invokevirtual 191, 3) := by decide +kernel
theorem dX4_sum_28 : decode cX4_sum 28 = .ok (.ifCond .ne 15, 3) := by decide +kernel
theorem dX4_sum_31 : decode cX4_sum 31 = .ok (.aload_n 0, 1) := by decide +kernel
theorem dX4_sum_32 : decode cX4_sum 32 = .ok (.getfield 15, 3) := by decide +kernel
theorem dX4_sum_35 : decode cX4_sum 35 = .ok (.bipush 45, 2) := by decide +kernel
theorem dX4_sum_37 : decode cX4_sum 37 = .ok (.invokevirtual 191, 3) := by decide +kernel
theorem dX4_sum_40 : decode cX4_sum 40 = .ok (.ifCond .eq 44, 3) := by decide +kernel
theorem dX4_sum_43 : decode cX4_sum 43 = .ok (.aload_n 0, 1) := by decide +kernel
theorem dX4_sum_44 : decode cX4_sum 44 = .ok (.getfield 15, 3) := by decide +kernel
theorem dX4_sum_47 : decode cX4_sum 47 = .ok (.getfield 46, 3) := by decide +kernel
theorem dX4_sum_50 : decode cX4_sum 50 = .ok (.istore 4, 2) := by decide +kernel
theorem dX4_sum_52 : decode cX4_sum 52 = .ok (.aload_n 0, 1) := by decide +kernel
theorem dX4_sum_53 : decode cX4_sum 53 = .ok (.getfield 15, 3) := by decide +kernel
theorem dX4_sum_56 : decode cX4_sum 56 = .ok (.invokevirtual 93, 3) := by decide +kernel
theorem dX4_sum_59 : decode cX4_sum 59 = .ok (.aload_n 0, 1) := by decide +kernel
theorem dX4_sum_60 : decode cX4_sum 60 = .ok (.iload_n 1, 1) := by decide +kernel
theorem dX4_sum_61 : decode cX4_sum 61 = .ok (.invokevirtual 216, 3) := by decide +kernel
theorem dX4_sum_64 : decode cX4_sum 64 = .ok (.istore_n 2, 1) := by decide +kernel
theorem dX4_sum_65 : decode cX4_sum 65 = .ok (.aload_n 0, 1) := by decide +kernel
theorem dX4_sum_66 : decode cX4_sum 66 = .ok (.getfield 19, 3) := by decide +kernel
theorem dX4_sum_69 : decode cX4_sum 69 = .ok (.getfield 197, 3) := by decide +kernel
theorem dX4_sum_72 : decode cX4_sum 72 = .ok (.iload 4, 2) := by decide +kernel
theorem dX4_sum_74 : decode cX4_sum 74 = .ok (.ineg, 1) := by decide +kernel
theorem dX4_sum_75 : decode cX4_sum 75 = .ok (.invokevirtual 203, 3) := by decide +kernel
theorem dX4_sum_78 : decode cX4_sum 78 = .ok (.iinc 3 1, 3) := by decide +kernel
theorem dX4_sum_81 : decode cX4_sum 81 = .ok (.goto (-73), 3) := by decide +kernel
theorem dX4_sum_84 : decode cX4_sum 84 = .ok (.iload_n 2, 1) := by decide +kernel
theorem dX4_sum_85 : decode cX4_sum 85 = .ok (.ireturn, 1) := by decide +kernel
theorem dX4_term_0 : decode cX4_term 0 = .ok (.aload_n 0, 1) := by decide +kernel
theorem dX4_term_1 : decode cX4_term 1 = .ok (.iload_n 1, 1) := by decide +kernel
theorem dX4_term_2 : decode cX4_term 2 = .ok (.invokevirtual 219, 3) := by decide +kernel
theorem dX4_term_5 : decode cX4_term 5 = .ok (.istore_n 2, 1) := by decide +kernel
theorem dX4_term_6 : decode cX4_term 6 = .ok (.iconst 0, 1) := by decide +kernel
theorem dX4_term_7 : decode cX4_term 7 = .ok (.istore_n 3, 1) := by decide +kernel
theorem dX4_term_8 : decode cX4_term 8 = .ok (.iload_n 3, 1) := by decide +kernel
theorem dX4_term_9 : decode cX4_term 9 = .ok (.sipush 1600, 3) := by decide +kernel
theorem dX4_term_12 : decode cX4_term 12 = .ok (.if_icmp .ge 55, 3) := by decide +kernel
theorem dX4_term_15 : decode cX4_term 15 = .ok (.iload_n 2, 1) := by decide +kernel
theorem dX4_term_16 : decode cX4_term 16 = .ok (.ifCond .eq 51, 3) := by decide +kernel
theorem dX4_term_19 : decode cX4_term 19 = .ok (.aload_n 0, 1) := by decide +kernel
theorem dX4_term_20 : decode cX4_term 20 = .ok (.invokevirtual 222, 3) := by decide +kernel
theorem dX4_term_23 : decode cX4_term 23 = .ok (.ifCond .eq 44, 3) := by decide +kernel
theorem dX4_term_26 : decode cX4_term 26 = .ok (.aload_n 0, 1) := by decide +kernel
theorem dX4_term_27 : decode cX4_term 27 = .ok (.getfield 15, 3) := by decide +kernel
theorem dX4_term_30 : decode cX4_term 30 = .ok (.getfield 46, 3) := by decide +kernel
theorem dX4_term_33 : decode cX4_term 33 = .ok (.istore 4, 2) := by decide +kernel
theorem dX4_term_35 : decode cX4_term 35 = .ok (.aload_n 0, 1) := by decide +kernel
theorem dX4_term_36 : decode cX4_term 36 = .ok (.getfield 15, 3) := by decide +kernel
theorem dX4_term_39 : decode cX4_term 39 = .ok (.invokevirtual 93, 3) := by decide +kernel
theorem dX4_term_42 : decode cX4_term 42 = .ok (.aload_n 0, 1) := by decide +kernel
theorem dX4_term_43 : decode cX4_term 43 = .ok (.iload_n 1, 1) := by decide +kernel
theorem dX4_term_44 : decode cX4_term 44 = .ok (.invokevirtual 219, 3) := by decide +kernel
theorem dX4_term_47 : decode cX4_term 47 = .ok (.istore_n 2, 1) := by decide +kernel
theorem dX4_term_48 : decode cX4_term 48 = .ok (.aload_n 0, 1) := by decide +kernel
theorem dX4_term_49 : decode cX4_term 49 = .ok (.getfield 19, 3) := by decide +kernel
theorem dX4_term_52 : decode cX4_term 52 = .ok (.getfield 197, 3) := by decide +kernel
theorem dX4_term_55 : decode cX4_term 55 = .ok (.iload 4, 2) := by decide +kernel
theorem dX4_term_57 : decode cX4_term 57 = .ok (.ineg, 1) := by decide +kernel
theorem dX4_term_58 : decode cX4_term 58 = .ok (.invokevirtual 203, 3) := by decide +kernel
theorem dX4_term_61 : decode cX4_term 61 = .ok (.iinc 3 1, 3) := by decide +kernel
theorem dX4_term_64 : decode cX4_term 64 = .ok (.goto (-56), 3) := by decide +kernel
theorem dX4_term_67 : decode cX4_term 67 = .ok (.iload_n 2, 1) := by decide +kernel
theorem dX4_term_68 : decode cX4_term 68 = .ok (.ireturn, 1) := by decide +kernel
theorem dX4_isTermSign_0 : decode cX4_isTermSign 0 = .ok (.aload_n 0, 1) := by decide +kernel
theorem dX4_isTermSign_1 : decode cX4_isTermSign 1 = .ok (.getfield 15, 3) := by decide +kernel
theorem dX4_isTermSign_4 : decode cX4_isTermSign 4 = .ok (.bipush 42, 2) := by decide +kernel
theorem dX4_isTermSign_6 : decode cX4_isTermSign 6 = .ok (.invokevirtual 191, 3) := by decide +kernel
theorem dX4_isTermSign_9 : decode cX4_isTermSign 9 = .ok (.ifCond .ne 27, 3) := by decide +kernel
theorem dX4_isTermSign_12 : decode cX4_isTermSign 12 = .ok (.aload_n 0, 1) := by decide +kernel
theorem dX4_isTermSign_13 : decode cX4_isTermSign 13 = .ok (.getfield 15, 3) := by decide +kernel
theorem dX4_isTermSign_16 : decode cX4_isTermSign 16 = .ok (.bipush 47, 2) := by decide +kernel
theorem dX4_isTermSign_18 : decode cX4_isTermSign 18 = .ok (.invokevirtual 191, 3) := by decide +kernel
theorem dX4_isTermSign_21 : decode cX4_isTermSign 21 = .ok (.ifCond .ne 15, 3) := by decide +kernel
theorem dX4_isTermSign_24 : decode cX4_isTermSign 24 = .ok (.aload_n 0, 1) := by decide +kernel
theorem dX4_isTermSign_25 : decode cX4_isTermSign 25 = .ok (.getfield 15, 3) := by decide +kernel
theorem dX4_isTermSign_28 : decode cX4_isTermSign 28 = .ok (.bipush 37, 2) := by decide +kernel
theorem dX4_isTermSign_30 : decode cX4_isTermSign 30 = .ok (.invokevirtual 191, 3) := by decide +kernel
theorem dX4_isTermSign_33 : decode cX4_isTermSign 33 = .ok (.ifCond .eq 7, 3) := by decide +kernel
theorem dX4_isTermSign_36 : decode cX4_isTermSign 36 = .ok (.iconst 1, 1) := by decide +kernel
theorem dX4_isTermSign_37 : decode cX4_isTermSign 37 = .ok (.goto 4, 3) := by decide +kernel
theorem dX4_isTermSign_40 : decode cX4_isTermSign 40 = .ok (.iconst 0, 1) := by decide +kernel
theorem dX4_isTermSign_41 : decode cX4_isTermSign 41 = .ok (.ireturn, 1) := by decide +kernel
theorem dX4_unit_0 : decode cX4_unit 0 = .ok (.aload_n 0, 1) := by decide +kernel
theorem dX4_unit_1 : decode cX4_unit 1 = .ok (.invokevirtual 225, 3) := by decide +kernel
theorem dX4_unit_4 : decode cX4_unit 4 = .ok (.istore_n 2, 1) := by decide +kernel
theorem dX4_unit_5 : decode cX4_unit 5 = .ok (.aload_n 0, 1) := by decide +kernel
theorem dX4_unit_6 : decode cX4_unit 6 = .ok (.getfield 15, 3) := by decide +kernel
theorem dX4_unit_9 : decode cX4_unit 9 = .ok (.bipush 40, 2) := by decide +kernel
theorem dX4_unit_11 : decode cX4_unit 11 = .ok (.invokevirtual 191, 3) := by decide +kernel
theorem dX4_unit_14 : decode cX4_unit 14 = .ok (.istore_n 3, 1) := by decide +kernel
theorem dX4_unit_15 : decode cX4_unit 15 = .ok (.iload_n 2, 1) := by decide +kernel
theorem dX4_unit_16 : decode cX4_unit 16 = .ok (.iconst (-1), 1) := by decide +kernel
theorem dX4_unit_17 : decode cX4_unit 17 = .ok (.if_icmp .ne 7, 3) := by decide +kernel
theorem dX4_unit_20 : decode cX4_unit 20 = .ok (.iload_n 3, 1) := by decide +kernel
theorem dX4_unit_21 : decode cX4_unit 21 = .ok (.ifCond .eq 18, 3) := by decide +kernel
theorem dX4_unit_24 : decode cX4_unit 24 = .ok (.aload_n 0, 1) := by decide +kernel
theorem dX4_unit_25 : decode cX4_unit 25 = .ok (.getfield 19, 3) := by decide +kernel
theorem dX4_unit_28 : decode cX4_unit 28 = .ok (.getfield 197, 3) := by decide +kernel
theorem dX4_unit_31 : decode cX4_unit 31 = .ok (.getfield 228, 3) := by decide +kernel
theorem dX4_unit_34 : decode cX4_unit 34 = .ok (.bipush 30, 2) := by decide +kernel
theorem dX4_unit_36 : decode cX4_unit 36 = .ok (.if_icmp .lt 9, 3) := by decide +kernel
theorem dX4_unit_39 : decode cX4_unit 39 = .ok (.aload_n 0, 1) := by decide +kernel
theorem dX4_unit_40 : decode cX4_unit 40 = .ok (.iconst 2, 1) := by decide +kernel
theorem dX4_unit_41 : decode cX4_unit 41 = .ok (.invokevirtual 42, 3) := by decide +kernel
theorem dX4_unit_44 : decode cX4_unit 44 = .ok (.ireturn, 1) := by decide +kernel
theorem dX4_unit_45 : decode cX4_unit 45 = .ok (.iload_n 3, 1) := by decide +kernel
theorem dX4_unit_46 : decode cX4_unit 46 = .ok (.ifCond .eq 15, 3) := by decide +kernel
theorem dX4_unit_49 : decode cX4_unit 49 = .ok (.iload_n 1, 1) := by decide +kernel
theorem dX4_unit_50 : decode cX4_unit 50 = .ok (.bipush 7, 2) := by decide +kernel
theorem dX4_unit_52 : decode cX4_unit 52 = .ok (.if_icmp .lt 9, 3) := by decide +kernel
theorem dX4_unit_55 : decode cX4_unit 55 = .ok (.aload_n 0, 1) := by decide +kernel
theorem dX4_unit_56 : decode cX4_unit 56 = .ok (.iconst 2, 1) := by decide +kernel
theorem dX4_unit_57 : decode cX4_unit 57 = .ok (.invokevirtual 42, 3) := by decide +kernel
theorem dX4_unit_60 : decode cX4_unit 60 = .ok (.ireturn, 1) := by decide +kernel
theorem dX4_unit_61 : decode cX4_unit 61 = .ok (.aload_n 0, 1) := by decide +kernel
theorem dX4_unit_62 : decode cX4_unit 62 = .ok (.getfield 19, 3) := by decide +kernel
theorem dX4_unit_65 : decode cX4_unit 65 = .ok (.getfield 197, 3) := by decide +kernel
theorem dX4_unit_68 : decode cX4_unit 68 = .ok (.dup, 1) := by decide +kernel
theorem dX4_unit_69 : decode cX4_unit 69 = .ok (.getfield 228, 3) := by decide +kernel
theorem dX4_unit_72 : decode cX4_unit 72 = .ok (.iconst 1, 1) := by decide +kernel
theorem dX4_unit_73 : decode cX4_unit 73 = .ok (.iadd, 1) := by decide +kernel
theorem dX4_unit_74 : decode cX4_unit 74 = .ok (.putfield 228, 3) := by decide +kernel
theorem dX4_unit_77 : decode cX4_unit 77 = .ok (.aload_n 0, 1) := by decide +kernel
theorem dX4_unit_78 : decode cX4_unit 78 = .ok (.getfield 15, 3) := by decide +kernel
theorem dX4_unit_81 : decode cX4_unit 81 = .ok (.invokevirtual 93, 3) := by decide +kernel
theorem dX4_unit_84 : decode cX4_unit 84 = .ok (.iload_n 3, 1) := by decide +kernel
theorem dX4_unit_85 : decode cX4_unit 85 = .ok (.ifCond .eq 28, 3) := by decide +kernel
theorem dX4_unit_88 : decode cX4_unit 88 = .ok (.aload_n 0, 1) := by decide +kernel
theorem dX4_unit_89 : decode cX4_unit 89 = .ok (.iload_n 1, 1) := by decide +kernel
theorem dX4_unit_90 : decode cX4_unit 90 = .ok (.iconst 1, 1) := by decide +kernel
theorem dX4_unit_91 : decode cX4_unit 91 = .ok (.iadd, 1) := by decide +kernel
theorem dX4_unit_92 : decode cX4_unit 92 = .ok (.invokevirtual 185, 3) := by decide +kernel
theorem dX4_unit_95 : decode cX4_unit 95 = .ok (.ifCond .eq 16, 3) := by decide +kernel
theorem dX4_unit_98 : decode cX4_unit 98 = .ok (.aload_n 0, 1) := by decide +kernel
theorem dX4_unit_99 : decode cX4_unit 99 = .ok (.bipush 41, 2) := by decide +kernel
theorem dX4_unit_101 : decode cX4_unit 101 = .ok (.invokevirtual 83, 3) := by decide +kernel
theorem dX4_unit_104 : decode cX4_unit 104 = .ok (.ifCond .eq 7, 3) := by decide +kernel
theorem dX4_unit_107 : decode cX4_unit 107 = .ok (.iconst 1, 1) := by decide +kernel
theorem dX4_unit_108 : decode cX4_unit 108 = .ok (.goto 4, 3) := by decide +kernel
theorem dX4_unit_111 : decode cX4_unit 111 = .ok (.iconst 0, 1) := by decide +kernel
theorem dX4_unit_112 : decode cX4_unit 112 = .ok (.ireturn, 1) := by decide +kernel
theorem dX4_unit_113 : decode cX4_unit 113 = .ok (.aload_n 0, 1) := by decide +kernel
theorem dX4_unit_114 : decode cX4_unit 114 = .ok (.getfield 19, 3) := by decide +kernel
theorem dX4_unit_117 : decode cX4_unit 117 = .ok (.getfield 197, 3) := by decide +kernel
theorem dX4_unit_120 : decode cX4_unit 120 = .ok (.iload_n 2, 1) := by decide +kernel
theorem dX4_unit_121 : decode cX4_unit 121 = .ok (.invokevirtual 203, 3) := by decide +kernel
theorem dX4_unit_124 : decode cX4_unit 124 = .ok (.iconst 1, 1) := by decide +kernel
theorem dX4_unit_125 : decode cX4_unit 125 = .ok (.ireturn, 1) := by decide +kernel
theorem dX4_leafCode_0 : decode cX4_leafCode 0 = .ok (.aload_n 0, 1) := by decide +kernel
theorem dX4_leafCode_1 : decode cX4_leafCode 1 = .ok (.getfield 15, 3) := by decide +kernel
theorem dX4_leafCode_4 : decode cX4_leafCode 4 = .ok (.getfield 39, 3) := by decide +kernel
theorem dX4_leafCode_7 : decode cX4_leafCode 7 = .ok (.iconst 4, 1) := by decide +kernel
theorem dX4_leafCode_8 : decode cX4_leafCode 8 = .ok (.if_icmp .ne 11, 3) := by decide +kernel
theorem dX4_leafCode_11 : decode cX4_leafCode 11 = .ok (.aload_n 0, 1) := by decide +kernel
theorem dX4_leafCode_12 : decode cX4_leafCode 12 = .ok (.getfield 15, 3) := by decide +kernel
theorem dX4_leafCode_15 : decode cX4_leafCode 15 = .ok (.getfield 46, 3) := by decide +kernel
theorem dX4_leafCode_18 : decode cX4_leafCode 18 = .ok (.ireturn, 1) := by decide +kernel
theorem dX4_leafCode_19 : decode cX4_leafCode 19 = .ok (.aload_n 0, 1) := by decide +kernel
theorem dX4_leafCode_20 : decode cX4_leafCode 20 = .ok (.getfield 15, 3) := by decide +kernel
theorem dX4_leafCode_23 : decode cX4_leafCode 23 = .ok (.getfield 39, 3) := by decide +kernel
theorem dX4_leafCode_26 : decode cX4_leafCode 26 = .ok (.iconst 3, 1) := by decide +kernel
theorem dX4_leafCode_27 : decode cX4_leafCode 27 = .ok (.if_icmp .eq 5, 3) := by decide +kernel
theorem dX4_leafCode_30 : decode cX4_leafCode 30 = .ok (.iconst (-1), 1) := by decide +kernel
theorem dX4_leafCode_31 : decode cX4_leafCode 31 = .ok (.ireturn, 1) := by decide +kernel
theorem dX4_leafCode_32 : decode cX4_leafCode 32 = .ok (.aload_n 0, 1) := by decide +kernel
theorem dX4_leafCode_33 : decode cX4_leafCode 33 = .ok (.getfield 15, 3) := by decide +kernel
theorem dX4_leafCode_36 : decode cX4_leafCode 36 = .ok (.getfield 46, 3) := by decide +kernel
theorem dX4_leafCode_39 : decode cX4_leafCode 39 = .ok (.tableswitch 41 17 20 #[29, 32, 35, 38], 29) := by decide +kernel
theorem dX4_leafCode_68 : decode cX4_leafCode 68 = .ok (.bipush (-2), 2) := by decide +kernel
theorem dX4_leafCode_70 : decode cX4_leafCode 70 = .ok (.ireturn, 1) := by decide +kernel
theorem dX4_leafCode_71 : decode cX4_leafCode 71 = .ok (.bipush (-3), 2) := by decide +kernel
theorem dX4_leafCode_73 : decode cX4_leafCode 73 = .ok (.ireturn, 1) := by decide +kernel
theorem dX4_leafCode_74 : decode cX4_leafCode 74 = .ok (.bipush (-4), 2) := by decide +kernel
theorem dX4_leafCode_76 : decode cX4_leafCode 76 = .ok (.ireturn, 1) := by decide +kernel
theorem dX4_leafCode_77 : decode cX4_leafCode 77 = .ok (.bipush (-5), 2) := by decide +kernel
theorem dX4_leafCode_79 : decode cX4_leafCode 79 = .ok (.ireturn, 1) := by decide +kernel
theorem dX4_leafCode_80 : decode cX4_leafCode 80 = .ok (.iconst (-1), 1) := by decide +kernel
theorem dX4_leafCode_81 : decode cX4_leafCode 81 = .ok (.ireturn, 1) := by decide +kernel
theorem dX5_init_0 : decode cX5_init 0 = .ok (.aload_n 0, 1) := by decide +kernel
theorem dX5_init_1 : decode cX5_init 1 = .ok (.invokespecial 3, 3) := by decide +kernel
theorem dX5_init_4 : decode cX5_init 4 = .ok (.aload_n 0, 1) := by decide +kernel
theorem dX5_init_5 : decode cX5_init 5 = .ok (.bipush 30, 2) := by decide +kernel
theorem dX5_init_7 : decode cX5_init 7 = .ok (.newarray .int, 2) := by decide +kernel
theorem dX5_init_9 : decode cX5_init 9 = .ok (.putfield 11, 3) := by decide +kernel
theorem dX5_init_12 : decode cX5_init 12 = .ok (.aload_n 0, 1) := by decide +kernel
theorem dX5_init_13 : decode cX5_init 13 = .ok (.bipush 30, 2) := by decide +kernel
theorem dX5_init_15 : decode cX5_init 15 = .ok (.newarray .int, 2) := by decide +kernel
theorem dX5_init_17 : decode cX5_init 17 = .ok (.putfield 15, 3) := by decide +kernel
theorem dX5_init_20 : decode cX5_init 20 = .ok (.aload_n 0, 1) := by decide +kernel
theorem dX5_init_21 : decode cX5_init 21 = .ok (.bipush 30, 2) := by decide +kernel
theorem dX5_init_23 : decode cX5_init 23 = .ok (.newarray .int, 2) := by decide +kernel
theorem dX5_init_25 : decode cX5_init 25 = .ok (.putfield 18, 3) := by decide +kernel
theorem dX5_init_28 : decode cX5_init 28 = .ok (.aload_n 0, 1) := by decide +kernel
theorem dX5_init_29 : decode cX5_init 29 = .ok (.bipush 30, 2) := by decide +kernel
theorem dX5_init_31 : decode cX5_init 31 = .ok (.newarray .boolean, 2) := by decide +kernel
theorem dX5_init_33 : decode cX5_init 33 = .ok (.putfield 21, 3) := by decide +kernel
theorem dX5_init_36 : decode cX5_init 36 = .ok (.aload_n 0, 1) := by decide +kernel
theorem dX5_init_37 : decode cX5_init 37 = .ok (.bipush 30, 2) := by decide +kernel
theorem dX5_init_39 : decode cX5_init 39 = .ok (.newarray .int, 2) := by decide +kernel
theorem dX5_init_41 : decode cX5_init 41 = .ok (.putfield 25, 3) := by decide +kernel
theorem dX5_init_44 : decode cX5_init 44 = .ok (.aload_n 0, 1) := by decide +kernel
theorem dX5_init_45 : decode cX5_init 45 = .ok (.bipush 30, 2) := by decide +kernel
theorem dX5_init_47 : decode cX5_init 47 = .ok (.newarray .int, 2) := by decide +kernel
theorem dX5_init_49 : decode cX5_init 49 = .ok (.putfield 28, 3) := by decide +kernel
theorem dX5_init_52 : decode cX5_init 52 = .ok (.return_, 1) := by decide +kernel
theorem dX5_tell_0 : decode cX5_tell 0 = .ok (.aload_n 0, 1) := by decide +kernel
theorem dX5_tell_1 : decode cX5_tell 1 = .ok (.getfield 31, 3) := by decide +kernel
theorem dX5_tell_4 : decode cX5_tell 4 = .ok (.bipush 30, 2) := by decide +kernel
theorem dX5_tell_6 : decode cX5_tell 6 = .ok (.if_icmp .lt 5, 3) := by decide +kernel
theorem dX5_tell_9 : decode cX5_tell 9 = .ok (.iconst (-1), 1) := by decide +kernel
theorem dX5_tell_10 : decode cX5_tell 10 = .ok (.ireturn, 1) := by decide +kernel
theorem dX5_tell_11 : decode cX5_tell 11 = .ok (.aload_n 0, 1) := by decide +kernel
theorem dX5_tell_12 : decode cX5_tell 12 = .ok (.getfield 11, 3) := by decide +kernel
theorem dX5_tell_15 : decode cX5_tell 15 = .ok (.aload_n 0, 1) := by decide +kernel
theorem dX5_tell_16 : decode cX5_tell 16 = .ok (.getfield 31, 3) := by decide +kernel
theorem dX5_tell_19 : decode cX5_tell 19 = .ok (.iload_n 1, 1) := by decide +kernel
theorem dX5_tell_20 : decode cX5_tell 20 = .ok (.iastore, 1) := by decide +kernel
theorem dX5_tell_21 : decode cX5_tell 21 = .ok (.aload_n 0, 1) := by decide +kernel
theorem dX5_tell_22 : decode cX5_tell 22 = .ok (.getfield 15, 3) := by decide +kernel
theorem dX5_tell_25 : decode cX5_tell 25 = .ok (.aload_n 0, 1) := by decide +kernel
theorem dX5_tell_26 : decode cX5_tell 26 = .ok (.getfield 31, 3) := by decide +kernel
theorem dX5_tell_29 : decode cX5_tell 29 = .ok (.iload_n 2, 1) := by decide +kernel
theorem dX5_tell_30 : decode cX5_tell 30 = .ok (.iastore, 1) := by decide +kernel
theorem dX5_tell_31 : decode cX5_tell 31 = .ok (.aload_n 0, 1) := by decide +kernel
theorem dX5_tell_32 : decode cX5_tell 32 = .ok (.getfield 18, 3) := by decide +kernel
theorem dX5_tell_35 : decode cX5_tell 35 = .ok (.aload_n 0, 1) := by decide +kernel
theorem dX5_tell_36 : decode cX5_tell 36 = .ok (.getfield 31, 3) := by decide +kernel
theorem dX5_tell_39 : decode cX5_tell 39 = .ok (.iload_n 3, 1) := by decide +kernel
theorem dX5_tell_40 : decode cX5_tell 40 = .ok (.iastore, 1) := by decide +kernel
theorem dX5_tell_41 : decode cX5_tell 41 = .ok (.aload_n 0, 1) := by decide +kernel
theorem dX5_tell_42 : decode cX5_tell 42 = .ok (.getfield 21, 3) := by decide +kernel
theorem dX5_tell_45 : decode cX5_tell 45 = .ok (.aload_n 0, 1) := by decide +kernel
theorem dX5_tell_46 : decode cX5_tell 46 = .ok (.getfield 31, 3) := by decide +kernel
theorem dX5_tell_49 : decode cX5_tell 49 = .ok (.iload 4, 2) := by decide +kernel
theorem dX5_tell_51 : decode cX5_tell 51 = .ok (.bastore, 1) := by decide +kernel
theorem dX5_tell_52 : decode cX5_tell 52 = .ok (.aload_n 0, 1) := by decide +kernel
theorem dX5_tell_53 : decode cX5_tell 53 = .ok (.getfield 25, 3) := by decide +kernel
theorem dX5_tell_56 : decode cX5_tell 56 = .ok (.aload_n 0, 1) := by decide +kernel
theorem dX5_tell_57 : decode cX5_tell 57 = .ok (.getfield 31, 3) := by decide +kernel
theorem dX5_tell_60 : decode cX5_tell 60 = .ok (.aload_n 0, 1) := by decide +kernel
theorem dX5_tell_61 : decode cX5_tell 61 = .ok (.getfield 35, 3) := by decide +kernel
theorem dX5_tell_64 : decode cX5_tell 64 = .ok (.iastore, 1) := by decide +kernel
theorem dX5_tell_65 : decode cX5_tell 65 = .ok (.aload_n 0, 1) := by decide +kernel
theorem dX5_tell_66 : decode cX5_tell 66 = .ok (.getfield 28, 3) := by decide +kernel
theorem dX5_tell_69 : decode cX5_tell 69 = .ok (.aload_n 0, 1) := by decide +kernel
theorem dX5_tell_70 : decode cX5_tell 70 = .ok (.getfield 31, 3) := by decide +kernel
theorem dX5_tell_73 : decode cX5_tell 73 = .ok (.iconst (-1), 1) := by decide +kernel
theorem dX5_tell_74 : decode cX5_tell 74 = .ok (.iastore, 1) := by decide +kernel
theorem dX5_tell_75 : decode cX5_tell 75 = .ok (.aload_n 0, 1) := by decide +kernel
theorem dX5_tell_76 : decode cX5_tell 76 = .ok (.dup, 1) := by decide +kernel
theorem dX5_tell_77 : decode cX5_tell 77 = .ok (.getfield 31, 3) := by decide +kernel
theorem dX5_tell_80 : decode cX5_tell 80 = .ok (.iconst 1, 1) := by decide +kernel
theorem dX5_tell_81 : decode cX5_tell 81 = .ok (.iadd, 1) := by decide +kernel
theorem dX5_tell_82 : decode cX5_tell 82 = .ok (.putfield 31, 3) := by decide +kernel
theorem dX5_tell_85 : decode cX5_tell 85 = .ok (.aload_n 0, 1) := by decide +kernel
theorem dX5_tell_86 : decode cX5_tell 86 = .ok (.getfield 31, 3) := by decide +kernel
theorem dX5_tell_89 : decode cX5_tell 89 = .ok (.iconst 1, 1) := by decide +kernel
theorem dX5_tell_90 : decode cX5_tell 90 = .ok (.isub, 1) := by decide +kernel
theorem dX5_tell_91 : decode cX5_tell 91 = .ok (.ireturn, 1) := by decide +kernel
theorem dX5_takeBack_0 : decode cX5_takeBack 0 = .ok (.iload_n 1, 1) := by decide +kernel
theorem dX5_takeBack_1 : decode cX5_takeBack 1 = .ok (.ifCond .lt 21, 3) := by decide +kernel
theorem dX5_takeBack_4 : decode cX5_takeBack 4 = .ok (.iload_n 1, 1) := by decide +kernel
theorem dX5_takeBack_5 : decode cX5_takeBack 5 = .ok (.aload_n 0, 1) := by decide +kernel
theorem dX5_takeBack_6 : decode cX5_takeBack 6 = .ok (.getfield 31, 3) := by decide +kernel
theorem dX5_takeBack_9 : decode cX5_takeBack 9 = .ok (.if_icmp .ge 13, 3) := by decide +kernel
theorem dX5_takeBack_12 : decode cX5_takeBack 12 = .ok (.aload_n 0, 1) := by decide +kernel
theorem dX5_takeBack_13 : decode cX5_takeBack 13 = .ok (.getfield 28, 3) := by decide +kernel
theorem dX5_takeBack_16 : decode cX5_takeBack 16 = .ok (.iload_n 1, 1) := by decide +kernel
theorem dX5_takeBack_17 : decode cX5_takeBack 17 = .ok (.iaload, 1) := by decide +kernel
theorem dX5_takeBack_18 : decode cX5_takeBack 18 = .ok (.iconst (-1), 1) := by decide +kernel
theorem dX5_takeBack_19 : decode cX5_takeBack 19 = .ok (.if_icmp .eq 5, 3) := by decide +kernel
theorem dX5_takeBack_22 : decode cX5_takeBack 22 = .ok (.iconst 0, 1) := by decide +kernel
theorem dX5_takeBack_23 : decode cX5_takeBack 23 = .ok (.ireturn, 1) := by decide +kernel
theorem dX5_takeBack_24 : decode cX5_takeBack 24 = .ok (.aload_n 0, 1) := by decide +kernel
theorem dX5_takeBack_25 : decode cX5_takeBack 25 = .ok (.getfield 28, 3) := by decide +kernel
theorem dX5_takeBack_28 : decode cX5_takeBack 28 = .ok (.iload_n 1, 1) := by decide +kernel
theorem dX5_takeBack_29 : decode cX5_takeBack 29 = .ok (.aload_n 0, 1) := by decide +kernel
theorem dX5_takeBack_30 : decode cX5_takeBack 30 = .ok (.getfield 35, 3) := by decide +kernel
theorem dX5_takeBack_33 : decode cX5_takeBack 33 = .ok (.iastore, 1) := by decide +kernel
theorem dX5_takeBack_34 : decode cX5_takeBack 34 = .ok (.iconst 1, 1) := by decide +kernel
theorem dX5_takeBack_35 : decode cX5_takeBack 35 = .ok (.ireturn, 1) := by decide +kernel
theorem dX5_passTime_0 : decode cX5_passTime 0 = .ok (.iload_n 1, 1) := by decide +kernel
theorem dX5_passTime_1 : decode cX5_passTime 1 = .ok (.ifCond .lt 21, 3) := by decide +kernel
theorem dX5_passTime_4 : decode cX5_passTime 4 = .ok (.iload_n 1, 1) := by decide +kernel
theorem dX5_passTime_5 : decode cX5_passTime 5 = .ok (.sipush 1000, 3) := by decide +kernel
theorem dX5_passTime_8 : decode cX5_passTime 8 = .ok (.if_icmp .gt 14, 3) := by decide +kernel
theorem dX5_passTime_11 : decode cX5_passTime 11 = .ok (.aload_n 0, 1) := by decide +kernel
theorem dX5_passTime_12 : decode cX5_passTime 12 = .ok (.getfield 35, 3) := by decide +kernel
theorem dX5_passTime_15 : decode cX5_passTime 15 = .ok (.iload_n 1, 1) := by decide +kernel
theorem dX5_passTime_16 : decode cX5_passTime 16 = .ok (.iadd, 1) := by decide +kernel
theorem dX5_passTime_17 : decode cX5_passTime 17 = .ok (.ldc 38, 2) := by decide +kernel
theorem dX5_passTime_19 : decode cX5_passTime 19 = .ok (.if_icmp .le 5, 3) := by decide +kernel
theorem dX5_passTime_22 : decode cX5_passTime 22 = .ok (.iconst (-1), 1) := by decide +kernel
theorem dX5_passTime_23 : decode cX5_passTime 23 = .ok (.ireturn, 1) := by decide +kernel
theorem dX5_passTime_24 : decode cX5_passTime 24 = .ok (.aload_n 0, 1) := by decide +kernel
theorem dX5_passTime_25 : decode cX5_passTime 25 = .ok (.dup, 1) := by decide +kernel
theorem dX5_passTime_26 : decode cX5_passTime 26 = .ok (.getfield 35, 3) := by decide +kernel
theorem dX5_passTime_29 : decode cX5_passTime 29 = .ok (.iload_n 1, 1) := by decide +kernel
theorem dX5_passTime_30 : decode cX5_passTime 30 = .ok (.iadd, 1) := by decide +kernel
theorem dX5_passTime_31 : decode cX5_passTime 31 = .ok (.putfield 35, 3) := by decide +kernel
theorem dX5_passTime_34 : decode cX5_passTime 34 = .ok (.aload_n 0, 1) := by decide +kernel
theorem dX5_passTime_35 : decode cX5_passTime 35 = .ok (.getfield 35, 3) := by decide +kernel
theorem dX5_passTime_38 : decode cX5_passTime 38 = .ok (.ireturn, 1) := by decide +kernel
theorem dX5_fitting_0 : decode cX5_fitting 0 = .ok (.iconst 0, 1) := by decide +kernel
theorem dX5_fitting_1 : decode cX5_fitting 1 = .ok (.istore 4, 2) := by decide +kernel
theorem dX5_fitting_3 : decode cX5_fitting 3 = .ok (.iconst 0, 1) := by decide +kernel
theorem dX5_fitting_4 : decode cX5_fitting 4 = .ok (.istore 5, 2) := by decide +kernel
theorem dX5_fitting_6 : decode cX5_fitting 6 = .ok (.iload 5, 2) := by decide +kernel
theorem dX5_fitting_8 : decode cX5_fitting 8 = .ok (.aload_n 1, 1) := by decide +kernel
theorem dX5_fitting_9 : decode cX5_fitting 9 = .ok (.getfield 39, 3) := by decide +kernel
theorem dX5_fitting_12 : decode cX5_fitting 12 = .ok (.if_icmp .ge 30, 3) := by decide +kernel
theorem dX5_fitting_15 : decode cX5_fitting 15 = .ok (.aload_n 0, 1) := by decide +kernel
theorem dX5_fitting_16 : decode cX5_fitting 16 = .ok (.aload_n 1, 1) := by decide +kernel
theorem dX5_fitting_17 : decode cX5_fitting 17 = .ok (.aload_n 2, 1) := by decide +kernel
theorem dX5_fitting_18 : decode cX5_fitting 18 = .ok (.iload 5, 2) := by decide +kernel
theorem dX5_fitting_20 : decode cX5_fitting 20 = .ok (.iload_n 3, 1) := by decide +kernel
theorem dX5_fitting_21 : decode cX5_fitting 21 = .ok (.invokevirtual 44, 3) := by decide +kernel
theorem dX5_fitting_24 : decode cX5_fitting 24 = .ok (.ifCond .eq 12, 3) := by decide +kernel
theorem dX5_fitting_27 : decode cX5_fitting 27 = .ok (.iload 4, 2) := by decide +kernel
theorem dX5_fitting_29 : decode cX5_fitting 29 = .ok (.iconst 1, 1) := by decide +kernel
theorem dX5_fitting_30 : decode cX5_fitting 30 = .ok (.iload 5, 2) := by decide +kernel
theorem dX5_fitting_32 : decode cX5_fitting 32 = .ok (.ishl, 1) := by decide +kernel
theorem dX5_fitting_33 : decode cX5_fitting 33 = .ok (.ior, 1) := by decide +kernel
theorem dX5_fitting_34 : decode cX5_fitting 34 = .ok (.istore 4, 2) := by decide +kernel
theorem dX5_fitting_36 : decode cX5_fitting 36 = .ok (.iinc 5 1, 3) := by decide +kernel
theorem dX5_fitting_39 : decode cX5_fitting 39 = .ok (.goto (-33), 3) := by decide +kernel
theorem dX5_fitting_42 : decode cX5_fitting 42 = .ok (.iload 4, 2) := by decide +kernel
theorem dX5_fitting_44 : decode cX5_fitting 44 = .ok (.ireturn, 1) := by decide +kernel
theorem dX5_isFitting_0 : decode cX5_isFitting 0 = .ok (.iconst 0, 1) := by decide +kernel
theorem dX5_isFitting_1 : decode cX5_isFitting 1 = .ok (.istore 5, 2) := by decide +kernel
theorem dX5_isFitting_3 : decode cX5_isFitting 3 = .ok (.iload 5, 2) := by decide +kernel
theorem dX5_isFitting_5 : decode cX5_isFitting 5 = .ok (.aload_n 0, 1) := by decide +kernel
theorem dX5_isFitting_6 : decode cX5_isFitting 6 = .ok (.getfield 31, 3) := by decide +kernel
theorem dX5_isFitting_9 : decode cX5_isFitting 9 = .ok (.if_icmp .ge 41, 3) := by decide +kernel
theorem dX5_isFitting_12 : decode cX5_isFitting 12 = .ok (.aload_n 0, 1) := by decide +kernel
theorem dX5_isFitting_13 : decode cX5_isFitting 13 = .ok (.iload 5, 2) := by decide +kernel
theorem dX5_isFitting_15 : decode cX5_isFitting 15 = .ok (.iload 4, 2) := by decide +kernel
theorem dX5_isFitting_17 : decode cX5_isFitting 17 = .ok (.invokevirtual 48, 3) := by decide +kernel
theorem dX5_isFitting_20 : decode cX5_isFitting 20 = .ok (.ifCond .eq 24, 3) := by decide +kernel
theorem dX5_isFitting_23 : decode cX5_isFitting 23 = .ok (.aload_n 0, 1) := by decide +kernel
theorem dX5_isFitting_24 : decode cX5_isFitting 24 = .ok (.aload_n 1, 1) := by decide +kernel
theorem dX5_isFitting_25 : decode cX5_isFitting 25 = .ok (.aload_n 2, 1) := by decide +kernel
theorem dX5_isFitting_26 : decode cX5_isFitting 26 = .ok (.iload 5, 2) := by decide +kernel
theorem dX5_isFitting_28 : decode cX5_isFitting 28 = .ok (.iload_n 3, 1) := by decide +kernel
theorem dX5_isFitting_29 : decode cX5_isFitting 29 = .ok (.invokevirtual 52, 3) := by decide +kernel
theorem dX5_isFitting_32 : decode cX5_isFitting 32 = .ok (.aload_n 0, 1) := by decide +kernel
theorem dX5_isFitting_33 : decode cX5_isFitting 33 = .ok (.getfield 21, 3) := by decide +kernel
theorem dX5_isFitting_36 : decode cX5_isFitting 36 = .ok (.iload 5, 2) := by decide +kernel
theorem dX5_isFitting_38 : decode cX5_isFitting 38 = .ok (.baload, 1) := by decide +kernel
theorem dX5_isFitting_39 : decode cX5_isFitting 39 = .ok (.if_icmp .eq 5, 3) := by decide +kernel
theorem dX5_isFitting_42 : decode cX5_isFitting 42 = .ok (.iconst 0, 1) := by decide +kernel
theorem dX5_isFitting_43 : decode cX5_isFitting 43 = .ok (.ireturn, 1) := by decide +kernel
theorem dX5_isFitting_44 : decode cX5_isFitting 44 = .ok (.iinc 5 1, 3) := by decide +kernel
theorem dX5_isFitting_47 : decode cX5_isFitting 47 = .ok (.goto (-44), 3) := by decide +kernel
theorem dX5_isFitting_50 : decode cX5_isFitting 50 = .ok (.iconst 1, 1) := by decide +kernel
theorem dX5_isFitting_51 : decode cX5_isFitting 51 = .ok (.ireturn, 1) := by decide +kernel
theorem dX5_counts_0 : decode cX5_counts 0 = .ok (.aload_n 0, 1) := by decide +kernel
theorem dX5_counts_1 : decode cX5_counts 1 = .ok (.getfield 28, 3) := by decide +kernel
theorem dX5_counts_4 : decode cX5_counts 4 = .ok (.iload_n 1, 1) := by decide +kernel
theorem dX5_counts_5 : decode cX5_counts 5 = .ok (.iaload, 1) := by decide +kernel
theorem dX5_counts_6 : decode cX5_counts 6 = .ok (.iconst (-1), 1) := by decide +kernel
theorem dX5_counts_7 : decode cX5_counts 7 = .ok (.if_icmp .eq 17, 3) := by decide +kernel
theorem dX5_counts_10 : decode cX5_counts 10 = .ok (.aload_n 0, 1) := by decide +kernel
theorem dX5_counts_11 : decode cX5_counts 11 = .ok (.getfield 28, 3) := by decide +kernel
theorem dX5_counts_14 : decode cX5_counts 14 = .ok (.iload_n 1, 1) := by decide +kernel
theorem dX5_counts_15 : decode cX5_counts 15 = .ok (.iaload, 1) := by decide +kernel
theorem dX5_counts_16 : decode cX5_counts 16 = .ok (.iload_n 2, 1) := by decide +kernel
theorem dX5_counts_17 : decode cX5_counts 17 = .ok (.if_icmp .gt 7, 3) := by decide +kernel
theorem dX5_counts_20 : decode cX5_counts 20 = .ok (.iconst 1, 1) := by decide +kernel
theorem dX5_counts_21 : decode cX5_counts 21 = .ok (.goto 4, 3) := by decide +kernel
theorem dX5_counts_24 : decode cX5_counts 24 = .ok (.iconst 0, 1) := by decide +kernel
theorem dX5_counts_25 : decode cX5_counts 25 = .ok (.istore_n 3, 1) := by decide +kernel
theorem dX5_counts_26 : decode cX5_counts 26 = .ok (.aload_n 0, 1) := by decide +kernel
theorem dX5_counts_27 : decode cX5_counts 27 = .ok (.getfield 25, 3) := by decide +kernel
theorem dX5_counts_30 : decode cX5_counts 30 = .ok (.iload_n 1, 1) := by decide +kernel
theorem dX5_counts_31 : decode cX5_counts 31 = .ok (.iaload, 1) := by decide +kernel
theorem dX5_counts_32 : decode cX5_counts 32 = .ok (.iload_n 2, 1) := by decide +kernel
theorem dX5_counts_33 : decode cX5_counts 33 = .ok (.if_icmp .gt 11, 3) := by decide +kernel
theorem dX5_counts_36 : decode cX5_counts 36 = .ok (.iload_n 3, 1) := by decide +kernel
theorem dX5_counts_37 : decode cX5_counts 37 = .ok (.ifCond .ne 7, 3) := by decide +kernel
theorem dX5_counts_40 : decode cX5_counts 40 = .ok (.iconst 1, 1) := by decide +kernel
theorem dX5_counts_41 : decode cX5_counts 41 = .ok (.goto 4, 3) := by decide +kernel
theorem dX5_counts_44 : decode cX5_counts 44 = .ok (.iconst 0, 1) := by decide +kernel
theorem dX5_counts_45 : decode cX5_counts 45 = .ok (.ireturn, 1) := by decide +kernel
theorem dX5_isSo_0 : decode cX5_isSo 0 = .ok (.aload_n 0, 1) := by decide +kernel
theorem dX5_isSo_1 : decode cX5_isSo 1 = .ok (.getfield 15, 3) := by decide +kernel
theorem dX5_isSo_4 : decode cX5_isSo 4 = .ok (.iload_n 3, 1) := by decide +kernel
theorem dX5_isSo_5 : decode cX5_isSo 5 = .ok (.iaload, 1) := by decide +kernel
theorem dX5_isSo_6 : decode cX5_isSo 6 = .ok (.istore 5, 2) := by decide +kernel
theorem dX5_isSo_8 : decode cX5_isSo 8 = .ok (.aload_n 0, 1) := by decide +kernel
theorem dX5_isSo_9 : decode cX5_isSo 9 = .ok (.getfield 11, 3) := by decide +kernel
theorem dX5_isSo_12 : decode cX5_isSo 12 = .ok (.iload_n 3, 1) := by decide +kernel
theorem dX5_isSo_13 : decode cX5_isSo 13 = .ok (.iaload, 1) := by decide +kernel
theorem dX5_isSo_14 : decode cX5_isSo 14 = .ok (.lookupswitch 68 #[(0, 26), (1, 43)], 26) := by decide +kernel
theorem dX5_isSo_40 : decode cX5_isSo 40 = .ok (.aload_n 2, 1) := by decide +kernel
theorem dX5_isSo_41 : decode cX5_isSo 41 = .ok (.iload 4, 2) := by decide +kernel
theorem dX5_isSo_43 : decode cX5_isSo 43 = .ok (.invokevirtual 55, 3) := by decide +kernel
theorem dX5_isSo_46 : decode cX5_isSo 46 = .ok (.iload 5, 2) := by decide +kernel
theorem dX5_isSo_48 : decode cX5_isSo 48 = .ok (.if_icmp .ne 7, 3) := by decide +kernel
theorem dX5_isSo_51 : decode cX5_isSo 51 = .ok (.iconst 1, 1) := by decide +kernel
theorem dX5_isSo_52 : decode cX5_isSo 52 = .ok (.goto 4, 3) := by decide +kernel
theorem dX5_isSo_55 : decode cX5_isSo 55 = .ok (.iconst 0, 1) := by decide +kernel
theorem dX5_isSo_56 : decode cX5_isSo 56 = .ok (.ireturn, 1) := by decide +kernel
theorem dX5_isSo_57 : decode cX5_isSo 57 = .ok (.aload_n 1, 1) := by decide +kernel
theorem dX5_isSo_58 : decode cX5_isSo 58 = .ok (.getfield 61, 3) := by decide +kernel
theorem dX5_isSo_61 : decode cX5_isSo 61 = .ok (.getfield 65, 3) := by decide +kernel
theorem dX5_isSo_64 : decode cX5_isSo 64 = .ok (.iload 4, 2) := by decide +kernel
theorem dX5_isSo_66 : decode cX5_isSo 66 = .ok (.iaload, 1) := by decide +kernel
theorem dX5_isSo_67 : decode cX5_isSo 67 = .ok (.iload 5, 2) := by decide +kernel
theorem dX5_isSo_69 : decode cX5_isSo 69 = .ok (.ishr, 1) := by decide +kernel
theorem dX5_isSo_70 : decode cX5_isSo 70 = .ok (.iconst 1, 1) := by decide +kernel
theorem dX5_isSo_71 : decode cX5_isSo 71 = .ok (.iand, 1) := by decide +kernel
theorem dX5_isSo_72 : decode cX5_isSo 72 = .ok (.iconst 1, 1) := by decide +kernel
theorem dX5_isSo_73 : decode cX5_isSo 73 = .ok (.if_icmp .ne 7, 3) := by decide +kernel
theorem dX5_isSo_76 : decode cX5_isSo 76 = .ok (.iconst 1, 1) := by decide +kernel
theorem dX5_isSo_77 : decode cX5_isSo 77 = .ok (.goto 4, 3) := by decide +kernel
theorem dX5_isSo_80 : decode cX5_isSo 80 = .ok (.iconst 0, 1) := by decide +kernel
theorem dX5_isSo_81 : decode cX5_isSo 81 = .ok (.ireturn, 1) := by decide +kernel
theorem dX5_isSo_82 : decode cX5_isSo 82 = .ok (.aload_n 1, 1) := by decide +kernel
theorem dX5_isSo_83 : decode cX5_isSo 83 = .ok (.getfield 61, 3) := by decide +kernel
theorem dX5_isSo_86 : decode cX5_isSo 86 = .ok (.iload 4, 2) := by decide +kernel
theorem dX5_isSo_88 : decode cX5_isSo 88 = .ok (.iload 5, 2) := by decide +kernel
theorem dX5_isSo_90 : decode cX5_isSo 90 = .ok (.aload_n 0, 1) := by decide +kernel
theorem dX5_isSo_91 : decode cX5_isSo 91 = .ok (.getfield 18, 3) := by decide +kernel
theorem dX5_isSo_94 : decode cX5_isSo 94 = .ok (.iload_n 3, 1) := by decide +kernel
theorem dX5_isSo_95 : decode cX5_isSo 95 = .ok (.iaload, 1) := by decide +kernel
theorem dX5_isSo_96 : decode cX5_isSo 96 = .ok (.invokevirtual 70, 3) := by decide +kernel
theorem dX5_isSo_99 : decode cX5_isSo 99 = .ok (.ireturn, 1) := by decide +kernel
theorem dX6_init_0 : decode cX6_init 0 = .ok (.aload_n 0, 1) := by decide +kernel
theorem dX6_init_1 : decode cX6_init 1 = .ok (.invokespecial 3, 3) := by decide +kernel
theorem dX6_init_4 : decode cX6_init 4 = .ok (.aload_n 0, 1) := by decide +kernel
theorem dX6_init_5 : decode cX6_init 5 = .ok (.bipush 32, 2) := by decide +kernel
theorem dX6_init_7 : decode cX6_init 7 = .ok (.newarray .int, 2) := by decide +kernel
theorem dX6_init_9 : decode cX6_init 9 = .ok (.putfield 11, 3) := by decide +kernel
theorem dX6_init_12 : decode cX6_init 12 = .ok (.aload_n 0, 1) := by decide +kernel
theorem dX6_init_13 : decode cX6_init 13 = .ok (.bipush 32, 2) := by decide +kernel
theorem dX6_init_15 : decode cX6_init 15 = .ok (.newarray .int, 2) := by decide +kernel
theorem dX6_init_17 : decode cX6_init 17 = .ok (.putfield 15, 3) := by decide +kernel
theorem dX6_init_20 : decode cX6_init 20 = .ok (.return_, 1) := by decide +kernel
theorem dX6_bestSet_0 : decode cX6_bestSet 0 = .ok (.aload_n 0, 1) := by decide +kernel
theorem dX6_bestSet_1 : decode cX6_bestSet 1 = .ok (.aload_n 1, 1) := by decide +kernel
theorem dX6_bestSet_2 : decode cX6_bestSet 2 = .ok (.aload_n 2, 1) := by decide +kernel
theorem dX6_bestSet_3 : decode cX6_bestSet 3 = .ok (.invokevirtual 18, 3) := by decide +kernel
theorem dX6_bestSet_6 : decode cX6_bestSet 6 = .ok (.aload_n 1, 1) := by decide +kernel
theorem dX6_bestSet_7 : decode cX6_bestSet 7 = .ok (.aload_n 2, 1) := by decide +kernel
theorem dX6_bestSet_8 : decode cX6_bestSet 8 = .ok (.invokestatic 22, 3) := by decide +kernel
theorem dX6_bestSet_11 : decode cX6_bestSet 11 = .ok (.istore_n 3, 1) := by decide +kernel
theorem dX6_bestSet_12 : decode cX6_bestSet 12 = .ok (.aload_n 0, 1) := by decide +kernel
theorem dX6_bestSet_13 : decode cX6_bestSet 13 = .ok (.getfield 11, 3) := by decide +kernel
theorem dX6_bestSet_16 : decode cX6_bestSet 16 = .ok (.iconst 0, 1) := by decide +kernel
theorem dX6_bestSet_17 : decode cX6_bestSet 17 = .ok (.invokestatic 26, 3) := by decide +kernel
theorem dX6_bestSet_20 : decode cX6_bestSet 20 = .ok (.aload_n 0, 1) := by decide +kernel
theorem dX6_bestSet_21 : decode cX6_bestSet 21 = .ok (.getfield 11, 3) := by decide +kernel
theorem dX6_bestSet_24 : decode cX6_bestSet 24 = .ok (.aload_n 2, 1) := by decide +kernel
theorem dX6_bestSet_25 : decode cX6_bestSet 25 = .ok (.iload_n 3, 1) := by decide +kernel
theorem dX6_bestSet_26 : decode cX6_bestSet 26 = .ok (.invokestatic 32, 3) := by decide +kernel
theorem dX6_bestSet_29 : decode cX6_bestSet 29 = .ok (.invokestatic 36, 3) := by decide +kernel
theorem dX6_bestSet_32 : decode cX6_bestSet 32 = .ok (.iconst 0, 1) := by decide +kernel
theorem dX6_bestSet_33 : decode cX6_bestSet 33 = .ok (.istore 4, 2) := by decide +kernel
theorem dX6_bestSet_35 : decode cX6_bestSet 35 = .ok (.iload 4, 2) := by decide +kernel
theorem dX6_bestSet_37 : decode cX6_bestSet 37 = .ok (.bipush 12, 2) := by decide +kernel
theorem dX6_bestSet_39 : decode cX6_bestSet 39 = .ok (.if_icmp .ge 36, 3) := by decide +kernel
theorem dX6_bestSet_42 : decode cX6_bestSet 42 = .ok (.aload_n 0, 1) := by decide +kernel
theorem dX6_bestSet_43 : decode cX6_bestSet 43 = .ok (.getfield 11, 3) := by decide +kernel
theorem dX6_bestSet_46 : decode cX6_bestSet 46 = .ok (.iconst 0, 1) := by decide +kernel
theorem dX6_bestSet_47 : decode cX6_bestSet 47 = .ok (.invokestatic 39, 3) := by decide +kernel
theorem dX6_bestSet_50 : decode cX6_bestSet 50 = .ok (.ifCond .ne 25, 3) := by decide +kernel
theorem dX6_bestSet_53 : decode cX6_bestSet 53 = .ok (.aload_n 0, 1) := by decide +kernel
theorem dX6_bestSet_54 : decode cX6_bestSet 54 = .ok (.aload_n 1, 1) := by decide +kernel
theorem dX6_bestSet_55 : decode cX6_bestSet 55 = .ok (.iload_n 3, 1) := by decide +kernel
theorem dX6_bestSet_56 : decode cX6_bestSet 56 = .ok (.aload_n 2, 1) := by decide +kernel
theorem dX6_bestSet_57 : decode cX6_bestSet 57 = .ok (.invokevirtual 43, 3) := by decide +kernel
theorem dX6_bestSet_60 : decode cX6_bestSet 60 = .ok (.iload 4, 2) := by decide +kernel
theorem dX6_bestSet_62 : decode cX6_bestSet 62 = .ok (.iadd, 1) := by decide +kernel
theorem dX6_bestSet_63 : decode cX6_bestSet 63 = .ok (.invokestatic 49, 3) := by decide +kernel
theorem dX6_bestSet_66 : decode cX6_bestSet 66 = .ok (.invokevirtual 53, 3) := by decide +kernel
theorem dX6_bestSet_69 : decode cX6_bestSet 69 = .ok (.iinc 4 1, 3) := by decide +kernel
theorem dX6_bestSet_72 : decode cX6_bestSet 72 = .ok (.goto (-37), 3) := by decide +kernel
theorem dX6_bestSet_75 : decode cX6_bestSet 75 = .ok (.iconst 0, 1) := by decide +kernel
theorem dX6_bestSet_76 : decode cX6_bestSet 76 = .ok (.istore 4, 2) := by decide +kernel
theorem dX6_bestSet_78 : decode cX6_bestSet 78 = .ok (.iconst 0, 1) := by decide +kernel
theorem dX6_bestSet_79 : decode cX6_bestSet 79 = .ok (.istore 5, 2) := by decide +kernel
theorem dX6_bestSet_81 : decode cX6_bestSet 81 = .ok (.iload 5, 2) := by decide +kernel
theorem dX6_bestSet_83 : decode cX6_bestSet 83 = .ok (.sipush 1024, 3) := by decide +kernel
theorem dX6_bestSet_86 : decode cX6_bestSet 86 = .ok (.if_icmp .ge 37, 3) := by decide +kernel
theorem dX6_bestSet_89 : decode cX6_bestSet 89 = .ok (.aload_n 0, 1) := by decide +kernel
theorem dX6_bestSet_90 : decode cX6_bestSet 90 = .ok (.getfield 11, 3) := by decide +kernel
theorem dX6_bestSet_93 : decode cX6_bestSet 93 = .ok (.iload 5, 2) := by decide +kernel
theorem dX6_bestSet_95 : decode cX6_bestSet 95 = .ok (.invokestatic 39, 3) := by decide +kernel
theorem dX6_bestSet_98 : decode cX6_bestSet 98 = .ok (.ifCond .eq 19, 3) := by decide +kernel
theorem dX6_bestSet_101 : decode cX6_bestSet 101 = .ok (.iload 4, 2) := by decide +kernel
theorem dX6_bestSet_103 : decode cX6_bestSet 103 = .ok (.iload_n 3, 1) := by decide +kernel
theorem dX6_bestSet_104 : decode cX6_bestSet 104 = .ok (.iload 5, 2) := by decide +kernel
theorem dX6_bestSet_106 : decode cX6_bestSet 106 = .ok (.invokestatic 57, 3) := by decide +kernel
theorem dX6_bestSet_109 : decode cX6_bestSet 109 = .ok (.iconst (-1), 1) := by decide +kernel
theorem dX6_bestSet_110 : decode cX6_bestSet 110 = .ok (.ixor, 1) := by decide +kernel
theorem dX6_bestSet_111 : decode cX6_bestSet 111 = .ok (.iand, 1) := by decide +kernel
theorem dX6_bestSet_112 : decode cX6_bestSet 112 = .ok (.invokestatic 61, 3) := by decide +kernel
theorem dX6_bestSet_115 : decode cX6_bestSet 115 = .ok (.istore 4, 2) := by decide +kernel
theorem dX6_bestSet_117 : decode cX6_bestSet 117 = .ok (.iinc 5 1, 3) := by decide +kernel
theorem dX6_bestSet_120 : decode cX6_bestSet 120 = .ok (.goto (-39), 3) := by decide +kernel
theorem dX6_bestSet_123 : decode cX6_bestSet 123 = .ok (.iload 4, 2) := by decide +kernel
theorem dX6_bestSet_125 : decode cX6_bestSet 125 = .ok (.ireturn, 1) := by decide +kernel
theorem dX6_mark_0 : decode cX6_mark 0 = .ok (.iload_n 1, 1) := by decide +kernel
theorem dX6_mark_1 : decode cX6_mark 1 = .ok (.bipush 32, 2) := by decide +kernel
theorem dX6_mark_3 : decode cX6_mark 3 = .ok (.idiv, 1) := by decide +kernel
theorem dX6_mark_4 : decode cX6_mark 4 = .ok (.istore_n 2, 1) := by decide +kernel
theorem dX6_mark_5 : decode cX6_mark 5 = .ok (.iload_n 2, 1) := by decide +kernel
theorem dX6_mark_6 : decode cX6_mark 6 = .ok (.ifCond .lt 21, 3) := by decide +kernel
theorem dX6_mark_9 : decode cX6_mark 9 = .ok (.iload_n 2, 1) := by decide +kernel
theorem dX6_mark_10 : decode cX6_mark 10 = .ok (.aload_n 0, 1) := by decide +kernel
theorem dX6_mark_11 : decode cX6_mark 11 = .ok (.arraylength, 1) := by decide +kernel
theorem dX6_mark_12 : decode cX6_mark 12 = .ok (.if_icmp .ge 15, 3) := by decide +kernel
theorem dX6_mark_15 : decode cX6_mark 15 = .ok (.aload_n 0, 1) := by decide +kernel
theorem dX6_mark_16 : decode cX6_mark 16 = .ok (.iload_n 2, 1) := by decide +kernel
theorem dX6_mark_17 : decode cX6_mark 17 = .ok (.dup2, 1) := by decide +kernel
theorem dX6_mark_18 : decode cX6_mark 18 = .ok (.iaload, 1) := by decide +kernel
theorem dX6_mark_19 : decode cX6_mark 19 = .ok (.iconst 1, 1) := by decide +kernel
theorem dX6_mark_20 : decode cX6_mark 20 = .ok (.iload_n 1, 1) := by decide +kernel
theorem dX6_mark_21 : decode cX6_mark 21 = .ok (.bipush 32, 2) := by decide +kernel
theorem dX6_mark_23 : decode cX6_mark 23 = .ok (.irem, 1) := by decide +kernel
theorem dX6_mark_24 : decode cX6_mark 24 = .ok (.ishl, 1) := by decide +kernel
theorem dX6_mark_25 : decode cX6_mark 25 = .ok (.ior, 1) := by decide +kernel
theorem dX6_mark_26 : decode cX6_mark 26 = .ok (.iastore, 1) := by decide +kernel
theorem dX6_mark_27 : decode cX6_mark 27 = .ok (.return_, 1) := by decide +kernel
theorem dX6_isMarked_0 : decode cX6_isMarked 0 = .ok (.iload_n 1, 1) := by decide +kernel
theorem dX6_isMarked_1 : decode cX6_isMarked 1 = .ok (.bipush 32, 2) := by decide +kernel
theorem dX6_isMarked_3 : decode cX6_isMarked 3 = .ok (.idiv, 1) := by decide +kernel
theorem dX6_isMarked_4 : decode cX6_isMarked 4 = .ok (.istore_n 2, 1) := by decide +kernel
theorem dX6_isMarked_5 : decode cX6_isMarked 5 = .ok (.iload_n 2, 1) := by decide +kernel
theorem dX6_isMarked_6 : decode cX6_isMarked 6 = .ok (.ifCond .lt 27, 3) := by decide +kernel
theorem dX6_isMarked_9 : decode cX6_isMarked 9 = .ok (.iload_n 2, 1) := by decide +kernel
theorem dX6_isMarked_10 : decode cX6_isMarked 10 = .ok (.aload_n 0, 1) := by decide +kernel
theorem dX6_isMarked_11 : decode cX6_isMarked 11 = .ok (.arraylength, 1) := by decide +kernel
theorem dX6_isMarked_12 : decode cX6_isMarked 12 = .ok (.if_icmp .ge 21, 3) := by decide +kernel
theorem dX6_isMarked_15 : decode cX6_isMarked 15 = .ok (.aload_n 0, 1) := by decide +kernel
theorem dX6_isMarked_16 : decode cX6_isMarked 16 = .ok (.iload_n 2, 1) := by decide +kernel
theorem dX6_isMarked_17 : decode cX6_isMarked 17 = .ok (.iaload, 1) := by decide +kernel
theorem dX6_isMarked_18 : decode cX6_isMarked 18 = .ok (.iload_n 1, 1) := by decide +kernel
theorem dX6_isMarked_19 : decode cX6_isMarked 19 = .ok (.bipush 32, 2) := by decide +kernel
theorem dX6_isMarked_21 : decode cX6_isMarked 21 = .ok (.irem, 1) := by decide +kernel
theorem dX6_isMarked_22 : decode cX6_isMarked 22 = .ok (.ishr, 1) := by decide +kernel
theorem dX6_isMarked_23 : decode cX6_isMarked 23 = .ok (.iconst 1, 1) := by decide +kernel
theorem dX6_isMarked_24 : decode cX6_isMarked 24 = .ok (.iand, 1) := by decide +kernel
theorem dX6_isMarked_25 : decode cX6_isMarked 25 = .ok (.iconst 1, 1) := by decide +kernel
theorem dX6_isMarked_26 : decode cX6_isMarked 26 = .ok (.if_icmp .ne 7, 3) := by decide +kernel
theorem dX6_isMarked_29 : decode cX6_isMarked 29 = .ok (.iconst 1, 1) := by decide +kernel
theorem dX6_isMarked_30 : decode cX6_isMarked 30 = .ok (.goto 4, 3) := by decide +kernel
theorem dX6_isMarked_33 : decode cX6_isMarked 33 = .ok (.iconst 0, 1) := by decide +kernel
theorem dX6_isMarked_34 : decode cX6_isMarked 34 = .ok (.ireturn, 1) := by decide +kernel
theorem dX6_better_0 : decode cX6_better 0 = .ok (.iload_n 1, 1) := by decide +kernel
theorem dX6_better_1 : decode cX6_better 1 = .ok (.invokestatic 65, 3) := by decide +kernel
theorem dX6_better_4 : decode cX6_better 4 = .ok (.iload_n 0, 1) := by decide +kernel
theorem dX6_better_5 : decode cX6_better 5 = .ok (.invokestatic 65, 3) := by decide +kernel
theorem dX6_better_8 : decode cX6_better 8 = .ok (.isub, 1) := by decide +kernel
theorem dX6_better_9 : decode cX6_better 9 = .ok (.istore_n 2, 1) := by decide +kernel
theorem dX6_better_10 : decode cX6_better 10 = .ok (.iload_n 2, 1) := by decide +kernel
theorem dX6_better_11 : decode cX6_better 11 = .ok (.ifCond .gt 12, 3) := by decide +kernel
theorem dX6_better_14 : decode cX6_better 14 = .ok (.iload_n 2, 1) := by decide +kernel
theorem dX6_better_15 : decode cX6_better 15 = .ok (.ifCond .ne 12, 3) := by decide +kernel
theorem dX6_better_18 : decode cX6_better 18 = .ok (.iload_n 1, 1) := by decide +kernel
theorem dX6_better_19 : decode cX6_better 19 = .ok (.iload_n 0, 1) := by decide +kernel
theorem dX6_better_20 : decode cX6_better 20 = .ok (.if_icmp .ge 7, 3) := by decide +kernel
theorem dX6_better_23 : decode cX6_better 23 = .ok (.iload_n 1, 1) := by decide +kernel
theorem dX6_better_24 : decode cX6_better 24 = .ok (.goto 4, 3) := by decide +kernel
theorem dX6_better_27 : decode cX6_better 27 = .ok (.iload_n 0, 1) := by decide +kernel
theorem dX6_better_28 : decode cX6_better 28 = .ok (.ireturn, 1) := by decide +kernel
theorem dX6_openPairs_0 : decode cX6_openPairs 0 = .ok (.iconst 0, 1) := by decide +kernel
theorem dX6_openPairs_1 : decode cX6_openPairs 1 = .ok (.istore_n 2, 1) := by decide +kernel
theorem dX6_openPairs_2 : decode cX6_openPairs 2 = .ok (.iconst 0, 1) := by decide +kernel
theorem dX6_openPairs_3 : decode cX6_openPairs 3 = .ok (.istore_n 3, 1) := by decide +kernel
theorem dX6_openPairs_4 : decode cX6_openPairs 4 = .ok (.iload_n 3, 1) := by decide +kernel
theorem dX6_openPairs_5 : decode cX6_openPairs 5 = .ok (.aload_n 0, 1) := by decide +kernel
theorem dX6_openPairs_6 : decode cX6_openPairs 6 = .ok (.getfield 70, 3) := by decide +kernel
theorem dX6_openPairs_9 : decode cX6_openPairs 9 = .ok (.if_icmp .ge 23, 3) := by decide +kernel
theorem dX6_openPairs_12 : decode cX6_openPairs 12 = .ok (.aload_n 1, 1) := by decide +kernel
theorem dX6_openPairs_13 : decode cX6_openPairs 13 = .ok (.iload_n 3, 1) := by decide +kernel
theorem dX6_openPairs_14 : decode cX6_openPairs 14 = .ok (.invokevirtual 76, 3) := by decide +kernel
theorem dX6_openPairs_17 : decode cX6_openPairs 17 = .ok (.ifCond .ne 9, 3) := by decide +kernel
theorem dX6_openPairs_20 : decode cX6_openPairs 20 = .ok (.iload_n 2, 1) := by decide +kernel
theorem dX6_openPairs_21 : decode cX6_openPairs 21 = .ok (.iconst 1, 1) := by decide +kernel
theorem dX6_openPairs_22 : decode cX6_openPairs 22 = .ok (.iload_n 3, 1) := by decide +kernel
theorem dX6_openPairs_23 : decode cX6_openPairs 23 = .ok (.ishl, 1) := by decide +kernel
theorem dX6_openPairs_24 : decode cX6_openPairs 24 = .ok (.ior, 1) := by decide +kernel
theorem dX6_openPairs_25 : decode cX6_openPairs 25 = .ok (.istore_n 2, 1) := by decide +kernel
theorem dX6_openPairs_26 : decode cX6_openPairs 26 = .ok (.iinc 3 1, 3) := by decide +kernel
theorem dX6_openPairs_29 : decode cX6_openPairs 29 = .ok (.goto (-25), 3) := by decide +kernel
theorem dX6_openPairs_32 : decode cX6_openPairs 32 = .ok (.iload_n 2, 1) := by decide +kernel
theorem dX6_openPairs_33 : decode cX6_openPairs 33 = .ok (.ireturn, 1) := by decide +kernel
theorem dX6_readingsDue_0 : decode cX6_readingsDue 0 = .ok (.iconst 0, 1) := by decide +kernel
theorem dX6_readingsDue_1 : decode cX6_readingsDue 1 = .ok (.istore_n 2, 1) := by decide +kernel
theorem dX6_readingsDue_2 : decode cX6_readingsDue 2 = .ok (.iconst 0, 1) := by decide +kernel
theorem dX6_readingsDue_3 : decode cX6_readingsDue 3 = .ok (.istore_n 3, 1) := by decide +kernel
theorem dX6_readingsDue_4 : decode cX6_readingsDue 4 = .ok (.iload_n 3, 1) := by decide +kernel
theorem dX6_readingsDue_5 : decode cX6_readingsDue 5 = .ok (.iconst 5, 1) := by decide +kernel
theorem dX6_readingsDue_6 : decode cX6_readingsDue 6 = .ok (.if_icmp .ge 36, 3) := by decide +kernel
theorem dX6_readingsDue_9 : decode cX6_readingsDue 9 = .ok (.iload_n 1, 1) := by decide +kernel
theorem dX6_readingsDue_10 : decode cX6_readingsDue 10 = .ok (.iload_n 3, 1) := by decide +kernel
theorem dX6_readingsDue_11 : decode cX6_readingsDue 11 = .ok (.ishr, 1) := by decide +kernel
theorem dX6_readingsDue_12 : decode cX6_readingsDue 12 = .ok (.iconst 1, 1) := by decide +kernel
theorem dX6_readingsDue_13 : decode cX6_readingsDue 13 = .ok (.iand, 1) := by decide +kernel
theorem dX6_readingsDue_14 : decode cX6_readingsDue 14 = .ok (.iconst 1, 1) := by decide +kernel
theorem dX6_readingsDue_15 : decode cX6_readingsDue 15 = .ok (.if_icmp .ne 21, 3) := by decide +kernel
theorem dX6_readingsDue_18 : decode cX6_readingsDue 18 = .ok (.iload_n 2, 1) := by decide +kernel
theorem dX6_readingsDue_19 : decode cX6_readingsDue 19 = .ok (.iconst 0, 1) := by decide +kernel
theorem dX6_readingsDue_20 : decode cX6_readingsDue 20 = .ok (.iconst 3, 1) := by decide +kernel
theorem dX6_readingsDue_21 : decode cX6_readingsDue 21 = .ok (.aload_n 0, 1) := by decide +kernel
theorem dX6_readingsDue_22 : decode cX6_readingsDue 22 = .ok (.iload_n 3, 1) := by decide +kernel
theorem dX6_readingsDue_23 : decode cX6_readingsDue 23 = .ok (.invokevirtual 79, 3) := by decide +kernel
theorem dX6_readingsDue_26 : decode cX6_readingsDue 26 = .ok (.isub, 1) := by decide +kernel
theorem dX6_readingsDue_27 : decode cX6_readingsDue 27 = .ok (.invokestatic 82, 3) := by decide +kernel
theorem dX6_readingsDue_30 : decode cX6_readingsDue 30 = .ok (.iconst 2, 1) := by decide +kernel
theorem dX6_readingsDue_31 : decode cX6_readingsDue 31 = .ok (.iload_n 3, 1) := by decide +kernel
theorem dX6_readingsDue_32 : decode cX6_readingsDue 32 = .ok (.imul, 1) := by decide +kernel
theorem dX6_readingsDue_33 : decode cX6_readingsDue 33 = .ok (.ishl, 1) := by decide +kernel
theorem dX6_readingsDue_34 : decode cX6_readingsDue 34 = .ok (.ior, 1) := by decide +kernel
theorem dX6_readingsDue_35 : decode cX6_readingsDue 35 = .ok (.istore_n 2, 1) := by decide +kernel
theorem dX6_readingsDue_36 : decode cX6_readingsDue 36 = .ok (.iinc 3 1, 3) := by decide +kernel
theorem dX6_readingsDue_39 : decode cX6_readingsDue 39 = .ok (.goto (-35), 3) := by decide +kernel
theorem dX6_readingsDue_42 : decode cX6_readingsDue 42 = .ok (.iload_n 2, 1) := by decide +kernel
theorem dX6_readingsDue_43 : decode cX6_readingsDue 43 = .ok (.sipush 1023, 3) := by decide +kernel
theorem dX6_readingsDue_46 : decode cX6_readingsDue 46 = .ok (.iand, 1) := by decide +kernel
theorem dX6_readingsDue_47 : decode cX6_readingsDue 47 = .ok (.ireturn, 1) := by decide +kernel
theorem dX6_presentPairs_0 : decode cX6_presentPairs 0 = .ok (.iload_n 1, 1) := by decide +kernel
theorem dX6_presentPairs_1 : decode cX6_presentPairs 1 = .ok (.istore_n 3, 1) := by decide +kernel
theorem dX6_presentPairs_2 : decode cX6_presentPairs 2 = .ok (.iconst 0, 1) := by decide +kernel
theorem dX6_presentPairs_3 : decode cX6_presentPairs 3 = .ok (.istore 4, 2) := by decide +kernel
theorem dX6_presentPairs_5 : decode cX6_presentPairs 5 = .ok (.iload 4, 2) := by decide +kernel
theorem dX6_presentPairs_7 : decode cX6_presentPairs 7 = .ok (.aload_n 0, 1) := by decide +kernel
theorem dX6_presentPairs_8 : decode cX6_presentPairs 8 = .ok (.getfield 70, 3) := by decide +kernel
theorem dX6_presentPairs_11 : decode cX6_presentPairs 11 = .ok (.if_icmp .ge 28, 3) := by decide +kernel
theorem dX6_presentPairs_14 : decode cX6_presentPairs 14 = .ok (.aload_n 0, 1) := by decide +kernel
theorem dX6_presentPairs_15 : decode cX6_presentPairs 15 = .ok (.iload 4, 2) := by decide +kernel
theorem dX6_presentPairs_17 : decode cX6_presentPairs 17 = .ok (.iload_n 2, 1) := by decide +kernel
theorem dX6_presentPairs_18 : decode cX6_presentPairs 18 = .ok (.invokevirtual 87, 3) := by decide +kernel
theorem dX6_presentPairs_21 : decode cX6_presentPairs 21 = .ok (.ifCond .eq 12, 3) := by decide +kernel
theorem dX6_presentPairs_24 : decode cX6_presentPairs 24 = .ok (.iload_n 3, 1) := by decide +kernel
theorem dX6_presentPairs_25 : decode cX6_presentPairs 25 = .ok (.iconst 1, 1) := by decide +kernel
theorem dX6_presentPairs_26 : decode cX6_presentPairs 26 = .ok (.iload 4, 2) := by decide +kernel
theorem dX6_presentPairs_28 : decode cX6_presentPairs 28 = .ok (.ishl, 1) := by decide +kernel
theorem dX6_presentPairs_29 : decode cX6_presentPairs 29 = .ok (.iconst (-1), 1) := by decide +kernel
theorem dX6_presentPairs_30 : decode cX6_presentPairs 30 = .ok (.ixor, 1) := by decide +kernel
theorem dX6_presentPairs_31 : decode cX6_presentPairs 31 = .ok (.iand, 1) := by decide +kernel
theorem dX6_presentPairs_32 : decode cX6_presentPairs 32 = .ok (.istore_n 3, 1) := by decide +kernel
theorem dX6_presentPairs_33 : decode cX6_presentPairs 33 = .ok (.iinc 4 1, 3) := by decide +kernel
theorem dX6_presentPairs_36 : decode cX6_presentPairs 36 = .ok (.goto (-31), 3) := by decide +kernel
theorem dX6_presentPairs_39 : decode cX6_presentPairs 39 = .ok (.iload_n 3, 1) := by decide +kernel
theorem dX6_presentPairs_40 : decode cX6_presentPairs 40 = .ok (.ireturn, 1) := by decide +kernel
theorem dX6_weighSets_0 : decode cX6_weighSets 0 = .ok (.aload_n 0, 1) := by decide +kernel
theorem dX6_weighSets_1 : decode cX6_weighSets 1 = .ok (.iconst 0, 1) := by decide +kernel
theorem dX6_weighSets_2 : decode cX6_weighSets 2 = .ok (.putfield 91, 3) := by decide +kernel
theorem dX6_weighSets_5 : decode cX6_weighSets 5 = .ok (.iconst 0, 1) := by decide +kernel
theorem dX6_weighSets_6 : decode cX6_weighSets 6 = .ok (.istore_n 3, 1) := by decide +kernel
theorem dX6_weighSets_7 : decode cX6_weighSets 7 = .ok (.iload_n 3, 1) := by decide +kernel
theorem dX6_weighSets_8 : decode cX6_weighSets 8 = .ok (.bipush 32, 2) := by decide +kernel
theorem dX6_weighSets_10 : decode cX6_weighSets 10 = .ok (.if_icmp .ge 76, 3) := by decide +kernel
theorem dX6_weighSets_13 : decode cX6_weighSets 13 = .ok (.iconst 1, 1) := by decide +kernel
theorem dX6_weighSets_14 : decode cX6_weighSets 14 = .ok (.istore 4, 2) := by decide +kernel
theorem dX6_weighSets_16 : decode cX6_weighSets 16 = .ok (.iconst 0, 1) := by decide +kernel
theorem dX6_weighSets_17 : decode cX6_weighSets 17 = .ok (.istore 5, 2) := by decide +kernel
theorem dX6_weighSets_19 : decode cX6_weighSets 19 = .ok (.iload 5, 2) := by decide +kernel
theorem dX6_weighSets_21 : decode cX6_weighSets 21 = .ok (.aload_n 1, 1) := by decide +kernel
theorem dX6_weighSets_22 : decode cX6_weighSets 22 = .ok (.getfield 94, 3) := by decide +kernel
theorem dX6_weighSets_25 : decode cX6_weighSets 25 = .ok (.if_icmp .ge 34, 3) := by decide +kernel
theorem dX6_weighSets_28 : decode cX6_weighSets 28 = .ok (.iload 4, 2) := by decide +kernel
theorem dX6_weighSets_30 : decode cX6_weighSets 30 = .ok (.aload_n 1, 1) := by decide +kernel
theorem dX6_weighSets_31 : decode cX6_weighSets 31 = .ok (.aload_n 2, 1) := by decide +kernel
theorem dX6_weighSets_32 : decode cX6_weighSets 32 = .ok (.iload_n 3, 1) := by decide +kernel
theorem dX6_weighSets_33 : decode cX6_weighSets 33 = .ok (.iload 5, 2) := by decide +kernel
theorem dX6_weighSets_35 : decode cX6_weighSets 35 = .ok (.invokestatic 97, 3) := by decide +kernel
theorem dX6_weighSets_38 : decode cX6_weighSets 38 = .ok (.aload_n 1, 1) := by decide +kernel
theorem dX6_weighSets_39 : decode cX6_weighSets 39 = .ok (.getfield 101, 3) := by decide +kernel
theorem dX6_weighSets_42 : decode cX6_weighSets 42 = .ok (.if_icmp .gt 7, 3) := by decide +kernel
theorem dX6_weighSets_45 : decode cX6_weighSets 45 = .ok (.iconst 1, 1) := by decide +kernel
theorem dX6_weighSets_46 : decode cX6_weighSets 46 = .ok (.goto 4, 3) := by decide +kernel
theorem dX6_weighSets_49 : decode cX6_weighSets 49 = .ok (.iconst 0, 1) := by decide +kernel
theorem dX6_weighSets_50 : decode cX6_weighSets 50 = .ok (.iand, 1) := by decide +kernel
theorem dX6_weighSets_51 : decode cX6_weighSets 51 = .ok (.istore 4, 2) := by decide +kernel
theorem dX6_weighSets_53 : decode cX6_weighSets 53 = .ok (.iinc 5 1, 3) := by decide +kernel
theorem dX6_weighSets_56 : decode cX6_weighSets 56 = .ok (.goto (-37), 3) := by decide +kernel
theorem dX6_weighSets_59 : decode cX6_weighSets 59 = .ok (.aload_n 0, 1) := by decide +kernel
theorem dX6_weighSets_60 : decode cX6_weighSets 60 = .ok (.dup, 1) := by decide +kernel
theorem dX6_weighSets_61 : decode cX6_weighSets 61 = .ok (.getfield 91, 3) := by decide +kernel
theorem dX6_weighSets_64 : decode cX6_weighSets 64 = .ok (.iload 4, 2) := by decide +kernel
theorem dX6_weighSets_66 : decode cX6_weighSets 66 = .ok (.ifCond .eq 9, 3) := by decide +kernel
theorem dX6_weighSets_69 : decode cX6_weighSets 69 = .ok (.iconst 1, 1) := by decide +kernel
theorem dX6_weighSets_70 : decode cX6_weighSets 70 = .ok (.iload_n 3, 1) := by decide +kernel
theorem dX6_weighSets_71 : decode cX6_weighSets 71 = .ok (.ishl, 1) := by decide +kernel
theorem dX6_weighSets_72 : decode cX6_weighSets 72 = .ok (.goto 4, 3) := by decide +kernel
theorem dX6_weighSets_75 : decode cX6_weighSets 75 = .ok (.iconst 0, 1) := by decide +kernel
theorem dX6_weighSets_76 : decode cX6_weighSets 76 = .ok (.ior, 1) := by decide +kernel
theorem dX6_weighSets_77 : decode cX6_weighSets 77 = .ok (.putfield 91, 3) := by decide +kernel
theorem dX6_weighSets_80 : decode cX6_weighSets 80 = .ok (.iinc 3 1, 3) := by decide +kernel
theorem dX6_weighSets_83 : decode cX6_weighSets 83 = .ok (.goto (-76), 3) := by decide +kernel
theorem dX6_weighSets_86 : decode cX6_weighSets 86 = .ok (.return_, 1) := by decide +kernel
theorem dX6_fits_0 : decode cX6_fits 0 = .ok (.aload_n 0, 1) := by decide +kernel
theorem dX6_fits_1 : decode cX6_fits 1 = .ok (.getfield 91, 3) := by decide +kernel
theorem dX6_fits_4 : decode cX6_fits 4 = .ok (.iload_n 1, 1) := by decide +kernel
theorem dX6_fits_5 : decode cX6_fits 5 = .ok (.ishr, 1) := by decide +kernel
theorem dX6_fits_6 : decode cX6_fits 6 = .ok (.iconst 1, 1) := by decide +kernel
theorem dX6_fits_7 : decode cX6_fits 7 = .ok (.iand, 1) := by decide +kernel
theorem dX6_fits_8 : decode cX6_fits 8 = .ok (.iconst 1, 1) := by decide +kernel
theorem dX6_fits_9 : decode cX6_fits 9 = .ok (.if_icmp .ne 7, 3) := by decide +kernel
theorem dX6_fits_12 : decode cX6_fits 12 = .ok (.iconst 1, 1) := by decide +kernel
theorem dX6_fits_13 : decode cX6_fits 13 = .ok (.goto 4, 3) := by decide +kernel
theorem dX6_fits_16 : decode cX6_fits 16 = .ok (.iconst 0, 1) := by decide +kernel
theorem dX6_fits_17 : decode cX6_fits 17 = .ok (.ireturn, 1) := by decide +kernel
theorem dX6_callsIn_0 : decode cX6_callsIn 0 = .ok (.iconst 0, 1) := by decide +kernel
theorem dX6_callsIn_1 : decode cX6_callsIn 1 = .ok (.istore 4, 2) := by decide +kernel
theorem dX6_callsIn_3 : decode cX6_callsIn 3 = .ok (.iconst 0, 1) := by decide +kernel
theorem dX6_callsIn_4 : decode cX6_callsIn 4 = .ok (.istore 5, 2) := by decide +kernel
theorem dX6_callsIn_6 : decode cX6_callsIn 6 = .ok (.iload 5, 2) := by decide +kernel
theorem dX6_callsIn_8 : decode cX6_callsIn 8 = .ok (.aload_n 0, 1) := by decide +kernel
theorem dX6_callsIn_9 : decode cX6_callsIn 9 = .ok (.getfield 70, 3) := by decide +kernel
theorem dX6_callsIn_12 : decode cX6_callsIn 12 = .ok (.if_icmp .ge 32, 3) := by decide +kernel
theorem dX6_callsIn_15 : decode cX6_callsIn 15 = .ok (.iload_n 2, 1) := by decide +kernel
theorem dX6_callsIn_16 : decode cX6_callsIn 16 = .ok (.iload 5, 2) := by decide +kernel
theorem dX6_callsIn_18 : decode cX6_callsIn 18 = .ok (.ishr, 1) := by decide +kernel
theorem dX6_callsIn_19 : decode cX6_callsIn 19 = .ok (.iconst 1, 1) := by decide +kernel
theorem dX6_callsIn_20 : decode cX6_callsIn 20 = .ok (.iand, 1) := by decide +kernel
theorem dX6_callsIn_21 : decode cX6_callsIn 21 = .ok (.iconst 1, 1) := by decide +kernel
theorem dX6_callsIn_22 : decode cX6_callsIn 22 = .ok (.if_icmp .ne 16, 3) := by decide +kernel
theorem dX6_callsIn_25 : decode cX6_callsIn 25 = .ok (.aload_n 1, 1) := by decide +kernel
theorem dX6_callsIn_26 : decode cX6_callsIn 26 = .ok (.iload 5, 2) := by decide +kernel
theorem dX6_callsIn_28 : decode cX6_callsIn 28 = .ok (.iload_n 3, 1) := by decide +kernel
theorem dX6_callsIn_29 : decode cX6_callsIn 29 = .ok (.invokevirtual 104, 3) := by decide +kernel
theorem dX6_callsIn_32 : decode cX6_callsIn 32 = .ok (.ifCond .eq 6, 3) := by decide +kernel
theorem dX6_callsIn_35 : decode cX6_callsIn 35 = .ok (.iinc 4 1, 3) := by decide +kernel
theorem dX6_callsIn_38 : decode cX6_callsIn 38 = .ok (.iinc 5 1, 3) := by decide +kernel
theorem dX6_callsIn_41 : decode cX6_callsIn 41 = .ok (.goto (-35), 3) := by decide +kernel
theorem dX6_callsIn_44 : decode cX6_callsIn 44 = .ok (.iload 4, 2) := by decide +kernel
theorem dX6_callsIn_46 : decode cX6_callsIn 46 = .ok (.ireturn, 1) := by decide +kernel
theorem dX6_passSunday_0 : decode cX6_passSunday 0 = .ok (.aload_n 0, 1) := by decide +kernel
theorem dX6_passSunday_1 : decode cX6_passSunday 1 = .ok (.getfield 15, 3) := by decide +kernel
theorem dX6_passSunday_4 : decode cX6_passSunday 4 = .ok (.iconst 0, 1) := by decide +kernel
theorem dX6_passSunday_5 : decode cX6_passSunday 5 = .ok (.invokestatic 26, 3) := by decide +kernel
theorem dX6_passSunday_8 : decode cX6_passSunday 8 = .ok (.iconst 0, 1) := by decide +kernel
theorem dX6_passSunday_9 : decode cX6_passSunday 9 = .ok (.istore_n 2, 1) := by decide +kernel
theorem dX6_passSunday_10 : decode cX6_passSunday 10 = .ok (.iload_n 2, 1) := by decide +kernel
theorem dX6_passSunday_11 : decode cX6_passSunday 11 = .ok (.aload_n 0, 1) := by decide +kernel
theorem dX6_passSunday_12 : decode cX6_passSunday 12 = .ok (.getfield 11, 3) := by decide +kernel
theorem dX6_passSunday_15 : decode cX6_passSunday 15 = .ok (.arraylength, 1) := by decide +kernel
theorem dX6_passSunday_16 : decode cX6_passSunday 16 = .ok (.if_icmp .ge 68, 3) := by decide +kernel
theorem dX6_passSunday_19 : decode cX6_passSunday 19 = .ok (.aload_n 0, 1) := by decide +kernel
theorem dX6_passSunday_20 : decode cX6_passSunday 20 = .ok (.getfield 11, 3) := by decide +kernel
theorem dX6_passSunday_23 : decode cX6_passSunday 23 = .ok (.iload_n 2, 1) := by decide +kernel
theorem dX6_passSunday_24 : decode cX6_passSunday 24 = .ok (.iaload, 1) := by decide +kernel
theorem dX6_passSunday_25 : decode cX6_passSunday 25 = .ok (.istore_n 3, 1) := by decide +kernel
theorem dX6_passSunday_26 : decode cX6_passSunday 26 = .ok (.iconst 0, 1) := by decide +kernel
theorem dX6_passSunday_27 : decode cX6_passSunday 27 = .ok (.istore 4, 2) := by decide +kernel
theorem dX6_passSunday_29 : decode cX6_passSunday 29 = .ok (.iload 4, 2) := by decide +kernel
theorem dX6_passSunday_31 : decode cX6_passSunday 31 = .ok (.bipush 32, 2) := by decide +kernel
theorem dX6_passSunday_33 : decode cX6_passSunday 33 = .ok (.if_icmp .ge 45, 3) := by decide +kernel
theorem dX6_passSunday_36 : decode cX6_passSunday 36 = .ok (.iload_n 3, 1) := by decide +kernel
theorem dX6_passSunday_37 : decode cX6_passSunday 37 = .ok (.ifCond .eq 41, 3) := by decide +kernel
theorem dX6_passSunday_40 : decode cX6_passSunday 40 = .ok (.iload_n 3, 1) := by decide +kernel
theorem dX6_passSunday_41 : decode cX6_passSunday 41 = .ok (.iload 4, 2) := by decide +kernel
theorem dX6_passSunday_43 : decode cX6_passSunday 43 = .ok (.ishr, 1) := by decide +kernel
theorem dX6_passSunday_44 : decode cX6_passSunday 44 = .ok (.iconst 1, 1) := by decide +kernel
theorem dX6_passSunday_45 : decode cX6_passSunday 45 = .ok (.iand, 1) := by decide +kernel
theorem dX6_passSunday_46 : decode cX6_passSunday 46 = .ok (.iconst 1, 1) := by decide +kernel
theorem dX6_passSunday_47 : decode cX6_passSunday 47 = .ok (.if_icmp .ne 25, 3) := by decide +kernel
theorem dX6_passSunday_50 : decode cX6_passSunday 50 = .ok (.iload_n 2, 1) := by decide +kernel
theorem dX6_passSunday_51 : decode cX6_passSunday 51 = .ok (.bipush 32, 2) := by decide +kernel
theorem dX6_passSunday_53 : decode cX6_passSunday 53 = .ok (.imul, 1) := by decide +kernel
theorem dX6_passSunday_54 : decode cX6_passSunday 54 = .ok (.iload 4, 2) := by decide +kernel
theorem dX6_passSunday_56 : decode cX6_passSunday 56 = .ok (.iadd, 1) := by decide +kernel
theorem dX6_passSunday_57 : decode cX6_passSunday 57 = .ok (.istore 5, 2) := by decide +kernel
theorem dX6_passSunday_59 : decode cX6_passSunday 59 = .ok (.aload_n 0, 1) := by decide +kernel
theorem dX6_passSunday_60 : decode cX6_passSunday 60 = .ok (.iload 5, 2) := by decide +kernel
theorem dX6_passSunday_62 : decode cX6_passSunday 62 = .ok (.iload_n 1, 1) := by decide +kernel
theorem dX6_passSunday_63 : decode cX6_passSunday 63 = .ok (.iload 5, 2) := by decide +kernel
theorem dX6_passSunday_65 : decode cX6_passSunday 65 = .ok (.invokestatic 57, 3) := by decide +kernel
theorem dX6_passSunday_68 : decode cX6_passSunday 68 = .ok (.iand, 1) := by decide +kernel
theorem dX6_passSunday_69 : decode cX6_passSunday 69 = .ok (.invokevirtual 107, 3) := by decide +kernel
theorem dX6_passSunday_72 : decode cX6_passSunday 72 = .ok (.iinc 4 1, 3) := by decide +kernel
theorem dX6_passSunday_75 : decode cX6_passSunday 75 = .ok (.goto (-46), 3) := by decide +kernel
theorem dX6_passSunday_78 : decode cX6_passSunday 78 = .ok (.iinc 2 1, 3) := by decide +kernel
theorem dX6_passSunday_81 : decode cX6_passSunday 81 = .ok (.goto (-71), 3) := by decide +kernel
theorem dX6_passSunday_84 : decode cX6_passSunday 84 = .ok (.aload_n 0, 1) := by decide +kernel
theorem dX6_passSunday_85 : decode cX6_passSunday 85 = .ok (.getfield 11, 3) := by decide +kernel
theorem dX6_passSunday_88 : decode cX6_passSunday 88 = .ok (.astore_n 2, 1) := by decide +kernel
theorem dX6_passSunday_89 : decode cX6_passSunday 89 = .ok (.aload_n 0, 1) := by decide +kernel
theorem dX6_passSunday_90 : decode cX6_passSunday 90 = .ok (.aload_n 0, 1) := by decide +kernel
theorem dX6_passSunday_91 : decode cX6_passSunday 91 = .ok (.getfield 15, 3) := by decide +kernel
theorem dX6_passSunday_94 : decode cX6_passSunday 94 = .ok (.putfield 11, 3) := by decide +kernel
theorem dX6_passSunday_97 : decode cX6_passSunday 97 = .ok (.aload_n 0, 1) := by decide +kernel
theorem dX6_passSunday_98 : decode cX6_passSunday 98 = .ok (.aload_n 2, 1) := by decide +kernel
theorem dX6_passSunday_99 : decode cX6_passSunday 99 = .ok (.putfield 15, 3) := by decide +kernel
theorem dX6_passSunday_102 : decode cX6_passSunday 102 = .ok (.return_, 1) := by decide +kernel
theorem dX6_readFrom_0 : decode cX6_readFrom 0 = .ok (.iconst 0, 1) := by decide +kernel
theorem dX6_readFrom_1 : decode cX6_readFrom 1 = .ok (.istore_n 3, 1) := by decide +kernel
theorem dX6_readFrom_2 : decode cX6_readFrom 2 = .ok (.iload_n 3, 1) := by decide +kernel
theorem dX6_readFrom_3 : decode cX6_readFrom 3 = .ok (.bipush 32, 2) := by decide +kernel
theorem dX6_readFrom_5 : decode cX6_readFrom 5 = .ok (.if_icmp .ge 47, 3) := by decide +kernel
theorem dX6_readFrom_8 : decode cX6_readFrom 8 = .ok (.iload_n 3, 1) := by decide +kernel
theorem dX6_readFrom_9 : decode cX6_readFrom 9 = .ok (.iload_n 2, 1) := by decide +kernel
theorem dX6_readFrom_10 : decode cX6_readFrom 10 = .ok (.iconst (-1), 1) := by decide +kernel
theorem dX6_readFrom_11 : decode cX6_readFrom 11 = .ok (.ixor, 1) := by decide +kernel
theorem dX6_readFrom_12 : decode cX6_readFrom 12 = .ok (.iand, 1) := by decide +kernel
theorem dX6_readFrom_13 : decode cX6_readFrom 13 = .ok (.ifCond .ne 33, 3) := by decide +kernel
theorem dX6_readFrom_16 : decode cX6_readFrom 16 = .ok (.aload_n 0, 1) := by decide +kernel
theorem dX6_readFrom_17 : decode cX6_readFrom 17 = .ok (.iload_n 3, 1) := by decide +kernel
theorem dX6_readFrom_18 : decode cX6_readFrom 18 = .ok (.invokevirtual 111, 3) := by decide +kernel
theorem dX6_readFrom_21 : decode cX6_readFrom 21 = .ok (.ifCond .eq 25, 3) := by decide +kernel
theorem dX6_readFrom_24 : decode cX6_readFrom 24 = .ok (.aload_n 0, 1) := by decide +kernel
theorem dX6_readFrom_25 : decode cX6_readFrom 25 = .ok (.iload_n 3, 1) := by decide +kernel
theorem dX6_readFrom_26 : decode cX6_readFrom 26 = .ok (.iload_n 2, 1) := by decide +kernel
theorem dX6_readFrom_27 : decode cX6_readFrom 27 = .ok (.invokevirtual 115, 3) := by decide +kernel
theorem dX6_readFrom_30 : decode cX6_readFrom 30 = .ok (.ifCond .eq 16, 3) := by decide +kernel
theorem dX6_readFrom_33 : decode cX6_readFrom 33 = .ok (.aload_n 0, 1) := by decide +kernel
theorem dX6_readFrom_34 : decode cX6_readFrom 34 = .ok (.getfield 15, 3) := by decide +kernel
theorem dX6_readFrom_37 : decode cX6_readFrom 37 = .ok (.iload_n 1, 1) := by decide +kernel
theorem dX6_readFrom_38 : decode cX6_readFrom 38 = .ok (.iload_n 3, 1) := by decide +kernel
theorem dX6_readFrom_39 : decode cX6_readFrom 39 = .ok (.invokestatic 118, 3) := by decide +kernel
theorem dX6_readFrom_42 : decode cX6_readFrom 42 = .ok (.isub, 1) := by decide +kernel
theorem dX6_readFrom_43 : decode cX6_readFrom 43 = .ok (.invokestatic 36, 3) := by decide +kernel
theorem dX6_readFrom_46 : decode cX6_readFrom 46 = .ok (.iinc 3 1, 3) := by decide +kernel
theorem dX6_readFrom_49 : decode cX6_readFrom 49 = .ok (.goto (-47), 3) := by decide +kernel
theorem dX6_readFrom_52 : decode cX6_readFrom 52 = .ok (.return_, 1) := by decide +kernel
theorem dX6_isFull_0 : decode cX6_isFull 0 = .ok (.iconst 0, 1) := by decide +kernel
theorem dX6_isFull_1 : decode cX6_isFull 1 = .ok (.istore_n 3, 1) := by decide +kernel
theorem dX6_isFull_2 : decode cX6_isFull 2 = .ok (.iload_n 3, 1) := by decide +kernel
theorem dX6_isFull_3 : decode cX6_isFull 3 = .ok (.iconst 5, 1) := by decide +kernel
theorem dX6_isFull_4 : decode cX6_isFull 4 = .ok (.if_icmp .ge 38, 3) := by decide +kernel
theorem dX6_isFull_7 : decode cX6_isFull 7 = .ok (.iconst 1, 1) := by decide +kernel
theorem dX6_isFull_8 : decode cX6_isFull 8 = .ok (.iload_n 3, 1) := by decide +kernel
theorem dX6_isFull_9 : decode cX6_isFull 9 = .ok (.ishl, 1) := by decide +kernel
theorem dX6_isFull_10 : decode cX6_isFull 10 = .ok (.istore 4, 2) := by decide +kernel
theorem dX6_isFull_12 : decode cX6_isFull 12 = .ok (.iload_n 2, 1) := by decide +kernel
theorem dX6_isFull_13 : decode cX6_isFull 13 = .ok (.iload_n 1, 1) := by decide +kernel
theorem dX6_isFull_14 : decode cX6_isFull 14 = .ok (.iconst (-1), 1) := by decide +kernel
theorem dX6_isFull_15 : decode cX6_isFull 15 = .ok (.ixor, 1) := by decide +kernel
theorem dX6_isFull_16 : decode cX6_isFull 16 = .ok (.iand, 1) := by decide +kernel
theorem dX6_isFull_17 : decode cX6_isFull 17 = .ok (.iload 4, 2) := by decide +kernel
theorem dX6_isFull_19 : decode cX6_isFull 19 = .ok (.iand, 1) := by decide +kernel
theorem dX6_isFull_20 : decode cX6_isFull 20 = .ok (.ifCond .eq 16, 3) := by decide +kernel
theorem dX6_isFull_23 : decode cX6_isFull 23 = .ok (.aload_n 0, 1) := by decide +kernel
theorem dX6_isFull_24 : decode cX6_isFull 24 = .ok (.iload_n 1, 1) := by decide +kernel
theorem dX6_isFull_25 : decode cX6_isFull 25 = .ok (.iload 4, 2) := by decide +kernel
theorem dX6_isFull_27 : decode cX6_isFull 27 = .ok (.ior, 1) := by decide +kernel
theorem dX6_isFull_28 : decode cX6_isFull 28 = .ok (.invokevirtual 111, 3) := by decide +kernel
theorem dX6_isFull_31 : decode cX6_isFull 31 = .ok (.ifCond .eq 5, 3) := by decide +kernel
theorem dX6_isFull_34 : decode cX6_isFull 34 = .ok (.iconst 0, 1) := by decide +kernel
theorem dX6_isFull_35 : decode cX6_isFull 35 = .ok (.ireturn, 1) := by decide +kernel
theorem dX6_isFull_36 : decode cX6_isFull 36 = .ok (.iinc 3 1, 3) := by decide +kernel
theorem dX6_isFull_39 : decode cX6_isFull 39 = .ok (.goto (-37), 3) := by decide +kernel
theorem dX6_isFull_42 : decode cX6_isFull 42 = .ok (.iconst 1, 1) := by decide +kernel
theorem dX6_isFull_43 : decode cX6_isFull 43 = .ok (.ireturn, 1) := by decide +kernel
theorem dX6_ones_0 : decode cX6_ones 0 = .ok (.iconst 0, 1) := by decide +kernel
theorem dX6_ones_1 : decode cX6_ones 1 = .ok (.istore_n 1, 1) := by decide +kernel
theorem dX6_ones_2 : decode cX6_ones 2 = .ok (.iconst 0, 1) := by decide +kernel
theorem dX6_ones_3 : decode cX6_ones 3 = .ok (.istore_n 2, 1) := by decide +kernel
theorem dX6_ones_4 : decode cX6_ones 4 = .ok (.iload_n 2, 1) := by decide +kernel
theorem dX6_ones_5 : decode cX6_ones 5 = .ok (.iconst 5, 1) := by decide +kernel
theorem dX6_ones_6 : decode cX6_ones 6 = .ok (.if_icmp .ge 21, 3) := by decide +kernel
theorem dX6_ones_9 : decode cX6_ones 9 = .ok (.iload_n 1, 1) := by decide +kernel
theorem dX6_ones_10 : decode cX6_ones 10 = .ok (.iload_n 0, 1) := by decide +kernel
theorem dX6_ones_11 : decode cX6_ones 11 = .ok (.iload_n 2, 1) := by decide +kernel
theorem dX6_ones_12 : decode cX6_ones 12 = .ok (.ishr, 1) := by decide +kernel
theorem dX6_ones_13 : decode cX6_ones 13 = .ok (.iconst 1, 1) := by decide +kernel
theorem dX6_ones_14 : decode cX6_ones 14 = .ok (.iand, 1) := by decide +kernel
theorem dX6_ones_15 : decode cX6_ones 15 = .ok (.iconst 2, 1) := by decide +kernel
theorem dX6_ones_16 : decode cX6_ones 16 = .ok (.iload_n 2, 1) := by decide +kernel
theorem dX6_ones_17 : decode cX6_ones 17 = .ok (.imul, 1) := by decide +kernel
theorem dX6_ones_18 : decode cX6_ones 18 = .ok (.ishl, 1) := by decide +kernel
theorem dX6_ones_19 : decode cX6_ones 19 = .ok (.ior, 1) := by decide +kernel
theorem dX6_ones_20 : decode cX6_ones 20 = .ok (.istore_n 1, 1) := by decide +kernel
theorem dX6_ones_21 : decode cX6_ones 21 = .ok (.iinc 2 1, 3) := by decide +kernel
theorem dX6_ones_24 : decode cX6_ones 24 = .ok (.goto (-20), 3) := by decide +kernel
theorem dX6_ones_27 : decode cX6_ones 27 = .ok (.iload_n 1, 1) := by decide +kernel
theorem dX6_ones_28 : decode cX6_ones 28 = .ok (.ireturn, 1) := by decide +kernel
theorem dX6_unfinished_0 : decode cX6_unfinished 0 = .ok (.iconst 0, 1) := by decide +kernel
theorem dX6_unfinished_1 : decode cX6_unfinished 1 = .ok (.istore_n 1, 1) := by decide +kernel
theorem dX6_unfinished_2 : decode cX6_unfinished 2 = .ok (.iconst 0, 1) := by decide +kernel
theorem dX6_unfinished_3 : decode cX6_unfinished 3 = .ok (.istore_n 2, 1) := by decide +kernel
theorem dX6_unfinished_4 : decode cX6_unfinished 4 = .ok (.iload_n 2, 1) := by decide +kernel
theorem dX6_unfinished_5 : decode cX6_unfinished 5 = .ok (.iconst 5, 1) := by decide +kernel
theorem dX6_unfinished_6 : decode cX6_unfinished 6 = .ok (.if_icmp .ge 25, 3) := by decide +kernel
theorem dX6_unfinished_9 : decode cX6_unfinished 9 = .ok (.iload_n 0, 1) := by decide +kernel
theorem dX6_unfinished_10 : decode cX6_unfinished 10 = .ok (.iconst 2, 1) := by decide +kernel
theorem dX6_unfinished_11 : decode cX6_unfinished 11 = .ok (.iload_n 2, 1) := by decide +kernel
theorem dX6_unfinished_12 : decode cX6_unfinished 12 = .ok (.imul, 1) := by decide +kernel
theorem dX6_unfinished_13 : decode cX6_unfinished 13 = .ok (.ishr, 1) := by decide +kernel
theorem dX6_unfinished_14 : decode cX6_unfinished 14 = .ok (.iconst 3, 1) := by decide +kernel
theorem dX6_unfinished_15 : decode cX6_unfinished 15 = .ok (.iand, 1) := by decide +kernel
theorem dX6_unfinished_16 : decode cX6_unfinished 16 = .ok (.ifCond .eq 9, 3) := by decide +kernel
theorem dX6_unfinished_19 : decode cX6_unfinished 19 = .ok (.iload_n 1, 1) := by decide +kernel
theorem dX6_unfinished_20 : decode cX6_unfinished 20 = .ok (.iconst 1, 1) := by decide +kernel
theorem dX6_unfinished_21 : decode cX6_unfinished 21 = .ok (.iload_n 2, 1) := by decide +kernel
theorem dX6_unfinished_22 : decode cX6_unfinished 22 = .ok (.ishl, 1) := by decide +kernel
theorem dX6_unfinished_23 : decode cX6_unfinished 23 = .ok (.ior, 1) := by decide +kernel
theorem dX6_unfinished_24 : decode cX6_unfinished 24 = .ok (.istore_n 1, 1) := by decide +kernel
theorem dX6_unfinished_25 : decode cX6_unfinished 25 = .ok (.iinc 2 1, 3) := by decide +kernel
theorem dX6_unfinished_28 : decode cX6_unfinished 28 = .ok (.goto (-24), 3) := by decide +kernel
theorem dX6_unfinished_31 : decode cX6_unfinished 31 = .ok (.iload_n 1, 1) := by decide +kernel
theorem dX6_unfinished_32 : decode cX6_unfinished 32 = .ok (.ireturn, 1) := by decide +kernel
theorem dX7_init_0 : decode cX7_init 0 = .ok (.aload_n 0, 1) := by decide +kernel
theorem dX7_init_1 : decode cX7_init 1 = .ok (.invokespecial 5, 3) := by decide +kernel
theorem dX7_init_4 : decode cX7_init 4 = .ok (.aload_n 0, 1) := by decide +kernel
theorem dX7_init_5 : decode cX7_init 5 = .ok (.bipush 30, 2) := by decide +kernel
theorem dX7_init_7 : decode cX7_init 7 = .ok (.newarray .int, 2) := by decide +kernel
theorem dX7_init_9 : decode cX7_init 9 = .ok (.putfield 11, 3) := by decide +kernel
theorem dX7_init_12 : decode cX7_init 12 = .ok (.return_, 1) := by decide +kernel
theorem dX7_begin_0 : decode cX7_begin 0 = .ok (.aload_n 0, 1) := by decide +kernel
theorem dX7_begin_1 : decode cX7_begin 1 = .ok (.getfield 11, 3) := by decide +kernel
theorem dX7_begin_4 : decode cX7_begin 4 = .ok (.iconst 0, 1) := by decide +kernel
theorem dX7_begin_5 : decode cX7_begin 5 = .ok (.invokestatic 15, 3) := by decide +kernel
theorem dX7_begin_8 : decode cX7_begin 8 = .ok (.aload_n 1, 1) := by decide +kernel
theorem dX7_begin_9 : decode cX7_begin 9 = .ok (.getfield 21, 3) := by decide +kernel
theorem dX7_begin_12 : decode cX7_begin 12 = .ok (.iconst 0, 1) := by decide +kernel
theorem dX7_begin_13 : decode cX7_begin 13 = .ok (.aload_n 0, 1) := by decide +kernel
theorem dX7_begin_14 : decode cX7_begin 14 = .ok (.getfield 11, 3) := by decide +kernel
theorem dX7_begin_17 : decode cX7_begin 17 = .ok (.iconst 0, 1) := by decide +kernel
theorem dX7_begin_18 : decode cX7_begin 18 = .ok (.bipush 8, 2) := by decide +kernel
theorem dX7_begin_20 : decode cX7_begin 20 = .ok (.invokestatic 26, 3) := by decide +kernel
theorem dX7_begin_23 : decode cX7_begin 23 = .ok (.aload_n 1, 1) := by decide +kernel
theorem dX7_begin_24 : decode cX7_begin 24 = .ok (.getfield 32, 3) := by decide +kernel
theorem dX7_begin_27 : decode cX7_begin 27 = .ok (.iconst 0, 1) := by decide +kernel
theorem dX7_begin_28 : decode cX7_begin 28 = .ok (.aload_n 0, 1) := by decide +kernel
theorem dX7_begin_29 : decode cX7_begin 29 = .ok (.getfield 11, 3) := by decide +kernel
theorem dX7_begin_32 : decode cX7_begin 32 = .ok (.bipush 13, 2) := by decide +kernel
theorem dX7_begin_34 : decode cX7_begin 34 = .ok (.iconst 5, 1) := by decide +kernel
theorem dX7_begin_35 : decode cX7_begin 35 = .ok (.invokestatic 26, 3) := by decide +kernel
theorem dX7_begin_38 : decode cX7_begin 38 = .ok (.aload_n 1, 1) := by decide +kernel
theorem dX7_begin_39 : decode cX7_begin 39 = .ok (.getfield 35, 3) := by decide +kernel
theorem dX7_begin_42 : decode cX7_begin 42 = .ok (.iconst 0, 1) := by decide +kernel
theorem dX7_begin_43 : decode cX7_begin 43 = .ok (.aload_n 0, 1) := by decide +kernel
theorem dX7_begin_44 : decode cX7_begin 44 = .ok (.getfield 11, 3) := by decide +kernel
theorem dX7_begin_47 : decode cX7_begin 47 = .ok (.bipush 18, 2) := by decide +kernel
theorem dX7_begin_49 : decode cX7_begin 49 = .ok (.iconst 5, 1) := by decide +kernel
theorem dX7_begin_50 : decode cX7_begin 50 = .ok (.invokestatic 26, 3) := by decide +kernel
theorem dX7_begin_53 : decode cX7_begin 53 = .ok (.aload_n 0, 1) := by decide +kernel
theorem dX7_begin_54 : decode cX7_begin 54 = .ok (.getfield 11, 3) := by decide +kernel
theorem dX7_begin_57 : decode cX7_begin 57 = .ok (.bipush 29, 2) := by decide +kernel
theorem dX7_begin_59 : decode cX7_begin 59 = .ok (.aload_n 1, 1) := by decide +kernel
theorem dX7_begin_60 : decode cX7_begin 60 = .ok (.getfield 38, 3) := by decide +kernel
theorem dX7_begin_63 : decode cX7_begin 63 = .ok (.iastore, 1) := by decide +kernel
theorem dX7_begin_64 : decode cX7_begin 64 = .ok (.return_, 1) := by decide +kernel
theorem dX7_copyFrom_0 : decode cX7_copyFrom 0 = .ok (.aload_n 1, 1) := by decide +kernel
theorem dX7_copyFrom_1 : decode cX7_copyFrom 1 = .ok (.getfield 11, 3) := by decide +kernel
theorem dX7_copyFrom_4 : decode cX7_copyFrom 4 = .ok (.iconst 0, 1) := by decide +kernel
theorem dX7_copyFrom_5 : decode cX7_copyFrom 5 = .ok (.aload_n 0, 1) := by decide +kernel
theorem dX7_copyFrom_6 : decode cX7_copyFrom 6 = .ok (.getfield 11, 3) := by decide +kernel
theorem dX7_copyFrom_9 : decode cX7_copyFrom 9 = .ok (.iconst 0, 1) := by decide +kernel
theorem dX7_copyFrom_10 : decode cX7_copyFrom 10 = .ok (.bipush 30, 2) := by decide +kernel
theorem dX7_copyFrom_12 : decode cX7_copyFrom 12 = .ok (.invokestatic 26, 3) := by decide +kernel
theorem dX7_copyFrom_15 : decode cX7_copyFrom 15 = .ok (.return_, 1) := by decide +kernel
theorem dX7_seat_0 : decode cX7_seat 0 = .ok (.aload_n 0, 1) := by decide +kernel
theorem dX7_seat_1 : decode cX7_seat 1 = .ok (.getfield 11, 3) := by decide +kernel
theorem dX7_seat_4 : decode cX7_seat 4 = .ok (.iconst 0, 1) := by decide +kernel
theorem dX7_seat_5 : decode cX7_seat 5 = .ok (.iload_n 1, 1) := by decide +kernel
theorem dX7_seat_6 : decode cX7_seat 6 = .ok (.iadd, 1) := by decide +kernel
theorem dX7_seat_7 : decode cX7_seat 7 = .ok (.iaload, 1) := by decide +kernel
theorem dX7_seat_8 : decode cX7_seat 8 = .ok (.ireturn, 1) := by decide +kernel
theorem dX7_setSeat_0 : decode cX7_setSeat 0 = .ok (.aload_n 0, 1) := by decide +kernel
theorem dX7_setSeat_1 : decode cX7_setSeat 1 = .ok (.getfield 11, 3) := by decide +kernel
theorem dX7_setSeat_4 : decode cX7_setSeat 4 = .ok (.iconst 0, 1) := by decide +kernel
theorem dX7_setSeat_5 : decode cX7_setSeat 5 = .ok (.iload_n 1, 1) := by decide +kernel
theorem dX7_setSeat_6 : decode cX7_setSeat 6 = .ok (.iadd, 1) := by decide +kernel
theorem dX7_setSeat_7 : decode cX7_setSeat 7 = .ok (.iload_n 2, 1) := by decide +kernel
theorem dX7_setSeat_8 : decode cX7_setSeat 8 = .ok (.iastore, 1) := by decide +kernel
theorem dX7_setSeat_9 : decode cX7_setSeat 9 = .ok (.return_, 1) := by decide +kernel
theorem dX7_status_0 : decode cX7_status 0 = .ok (.aload_n 0, 1) := by decide +kernel
theorem dX7_status_1 : decode cX7_status 1 = .ok (.getfield 11, 3) := by decide +kernel
theorem dX7_status_4 : decode cX7_status 4 = .ok (.bipush 8, 2) := by decide +kernel
theorem dX7_status_6 : decode cX7_status 6 = .ok (.iload_n 1, 1) := by decide +kernel
theorem dX7_status_7 : decode cX7_status 7 = .ok (.iadd, 1) := by decide +kernel
theorem dX7_status_8 : decode cX7_status 8 = .ok (.iaload, 1) := by decide +kernel
theorem dX7_status_9 : decode cX7_status 9 = .ok (.ireturn, 1) := by decide +kernel
theorem dX7_setStatus_0 : decode cX7_setStatus 0 = .ok (.aload_n 0, 1) := by decide +kernel
theorem dX7_setStatus_1 : decode cX7_setStatus 1 = .ok (.getfield 11, 3) := by decide +kernel
theorem dX7_setStatus_4 : decode cX7_setStatus 4 = .ok (.bipush 8, 2) := by decide +kernel
theorem dX7_setStatus_6 : decode cX7_setStatus 6 = .ok (.iload_n 1, 1) := by decide +kernel
theorem dX7_setStatus_7 : decode cX7_setStatus 7 = .ok (.iadd, 1) := by decide +kernel
theorem dX7_setStatus_8 : decode cX7_setStatus 8 = .ok (.iload_n 2, 1) := by decide +kernel
theorem dX7_setStatus_9 : decode cX7_setStatus 9 = .ok (.iastore, 1) := by decide +kernel
theorem dX7_setStatus_10 : decode cX7_setStatus 10 = .ok (.return_, 1) := by decide +kernel
theorem dX7_pairsThatAre_0 : decode cX7_pairsThatAre 0 = .ok (.iconst 0, 1) := by decide +kernel
theorem dX7_pairsThatAre_1 : decode cX7_pairsThatAre 1 = .ok (.istore_n 2, 1) := by decide +kernel
theorem dX7_pairsThatAre_2 : decode cX7_pairsThatAre 2 = .ok (.iconst 0, 1) := by decide +kernel
theorem dX7_pairsThatAre_3 : decode cX7_pairsThatAre 3 = .ok (.istore_n 3, 1) := by decide +kernel
theorem dX7_pairsThatAre_4 : decode cX7_pairsThatAre 4 = .ok (.iload_n 3, 1) := by decide +kernel
theorem dX7_pairsThatAre_5 : decode cX7_pairsThatAre 5 = .ok (.iconst 5, 1) := by decide +kernel
theorem dX7_pairsThatAre_6 : decode cX7_pairsThatAre 6 = .ok (.if_icmp .ge 24, 3) := by decide +kernel
theorem dX7_pairsThatAre_9 : decode cX7_pairsThatAre 9 = .ok (.aload_n 0, 1) := by decide +kernel
theorem dX7_pairsThatAre_10 : decode cX7_pairsThatAre 10 = .ok (.iload_n 3, 1) := by decide +kernel
theorem dX7_pairsThatAre_11 : decode cX7_pairsThatAre 11 = .ok (.invokevirtual 42, 3) := by decide +kernel
theorem dX7_pairsThatAre_14 : decode cX7_pairsThatAre 14 = .ok (.iload_n 1, 1) := by decide +kernel
theorem dX7_pairsThatAre_15 : decode cX7_pairsThatAre 15 = .ok (.if_icmp .ne 9, 3) := by decide +kernel
theorem dX7_pairsThatAre_18 : decode cX7_pairsThatAre 18 = .ok (.iload_n 2, 1) := by decide +kernel
theorem dX7_pairsThatAre_19 : decode cX7_pairsThatAre 19 = .ok (.iconst 1, 1) := by decide +kernel
theorem dX7_pairsThatAre_20 : decode cX7_pairsThatAre 20 = .ok (.iload_n 3, 1) := by decide +kernel
theorem dX7_pairsThatAre_21 : decode cX7_pairsThatAre 21 = .ok (.ishl, 1) := by decide +kernel
theorem dX7_pairsThatAre_22 : decode cX7_pairsThatAre 22 = .ok (.ior, 1) := by decide +kernel
theorem dX7_pairsThatAre_23 : decode cX7_pairsThatAre 23 = .ok (.istore_n 2, 1) := by decide +kernel
theorem dX7_pairsThatAre_24 : decode cX7_pairsThatAre 24 = .ok (.iinc 3 1, 3) := by decide +kernel
theorem dX7_pairsThatAre_27 : decode cX7_pairsThatAre 27 = .ok (.goto (-23), 3) := by decide +kernel
theorem dX7_pairsThatAre_30 : decode cX7_pairsThatAre 30 = .ok (.iload_n 2, 1) := by decide +kernel
theorem dX7_pairsThatAre_31 : decode cX7_pairsThatAre 31 = .ok (.ireturn, 1) := by decide +kernel
theorem dX7_churchOne_0 : decode cX7_churchOne 0 = .ok (.aload_n 0, 1) := by decide +kernel
theorem dX7_churchOne_1 : decode cX7_churchOne 1 = .ok (.getfield 11, 3) := by decide +kernel
theorem dX7_churchOne_4 : decode cX7_churchOne 4 = .ok (.bipush 13, 2) := by decide +kernel
theorem dX7_churchOne_6 : decode cX7_churchOne 6 = .ok (.iload_n 1, 1) := by decide +kernel
theorem dX7_churchOne_7 : decode cX7_churchOne 7 = .ok (.iadd, 1) := by decide +kernel
theorem dX7_churchOne_8 : decode cX7_churchOne 8 = .ok (.iaload, 1) := by decide +kernel
theorem dX7_churchOne_9 : decode cX7_churchOne 9 = .ok (.ireturn, 1) := by decide +kernel
theorem dX7_churchOther_0 : decode cX7_churchOther 0 = .ok (.aload_n 0, 1) := by decide +kernel
theorem dX7_churchOther_1 : decode cX7_churchOther 1 = .ok (.getfield 11, 3) := by decide +kernel
theorem dX7_churchOther_4 : decode cX7_churchOther 4 = .ok (.bipush 18, 2) := by decide +kernel
theorem dX7_churchOther_6 : decode cX7_churchOther 6 = .ok (.iload_n 1, 1) := by decide +kernel
theorem dX7_churchOther_7 : decode cX7_churchOther 7 = .ok (.iadd, 1) := by decide +kernel
theorem dX7_churchOther_8 : decode cX7_churchOther 8 = .ok (.iaload, 1) := by decide +kernel
theorem dX7_churchOther_9 : decode cX7_churchOther 9 = .ok (.ireturn, 1) := by decide +kernel
theorem dX7_isReadIn_0 : decode cX7_isReadIn 0 = .ok (.aload_n 0, 1) := by decide +kernel
theorem dX7_isReadIn_1 : decode cX7_isReadIn 1 = .ok (.iload_n 1, 1) := by decide +kernel
theorem dX7_isReadIn_2 : decode cX7_isReadIn 2 = .ok (.invokevirtual 46, 3) := by decide +kernel
theorem dX7_isReadIn_5 : decode cX7_isReadIn 5 = .ok (.iload_n 2, 1) := by decide +kernel
theorem dX7_isReadIn_6 : decode cX7_isReadIn 6 = .ok (.if_icmp .eq 12, 3) := by decide +kernel
theorem dX7_isReadIn_9 : decode cX7_isReadIn 9 = .ok (.aload_n 0, 1) := by decide +kernel
theorem dX7_isReadIn_10 : decode cX7_isReadIn 10 = .ok (.iload_n 1, 1) := by decide +kernel
theorem dX7_isReadIn_11 : decode cX7_isReadIn 11 = .ok (.invokevirtual 48, 3) := by decide +kernel
theorem dX7_isReadIn_14 : decode cX7_isReadIn 14 = .ok (.iload_n 2, 1) := by decide +kernel
theorem dX7_isReadIn_15 : decode cX7_isReadIn 15 = .ok (.if_icmp .ne 7, 3) := by decide +kernel
theorem dX7_isReadIn_18 : decode cX7_isReadIn 18 = .ok (.iconst 1, 1) := by decide +kernel
theorem dX7_isReadIn_19 : decode cX7_isReadIn 19 = .ok (.goto 4, 3) := by decide +kernel
theorem dX7_isReadIn_22 : decode cX7_isReadIn 22 = .ok (.iconst 0, 1) := by decide +kernel
theorem dX7_isReadIn_23 : decode cX7_isReadIn 23 = .ok (.ireturn, 1) := by decide +kernel
theorem dX7_setChurches_0 : decode cX7_setChurches 0 = .ok (.aload_n 0, 1) := by decide +kernel
theorem dX7_setChurches_1 : decode cX7_setChurches 1 = .ok (.getfield 11, 3) := by decide +kernel
theorem dX7_setChurches_4 : decode cX7_setChurches 4 = .ok (.bipush 13, 2) := by decide +kernel
theorem dX7_setChurches_6 : decode cX7_setChurches 6 = .ok (.iload_n 1, 1) := by decide +kernel
theorem dX7_setChurches_7 : decode cX7_setChurches 7 = .ok (.iadd, 1) := by decide +kernel
theorem dX7_setChurches_8 : decode cX7_setChurches 8 = .ok (.iload_n 2, 1) := by decide +kernel
theorem dX7_setChurches_9 : decode cX7_setChurches 9 = .ok (.iastore, 1) := by decide +kernel
theorem dX7_setChurches_10 : decode cX7_setChurches 10 = .ok (.aload_n 0, 1) := by decide +kernel
theorem dX7_setChurches_11 : decode cX7_setChurches 11 = .ok (.getfield 11, 3) := by decide +kernel
theorem dX7_setChurches_14 : decode cX7_setChurches 14 = .ok (.bipush 18, 2) := by decide +kernel
theorem dX7_setChurches_16 : decode cX7_setChurches 16 = .ok (.iload_n 1, 1) := by decide +kernel
theorem dX7_setChurches_17 : decode cX7_setChurches 17 = .ok (.iadd, 1) := by decide +kernel
theorem dX7_setChurches_18 : decode cX7_setChurches 18 = .ok (.iload_n 3, 1) := by decide +kernel
theorem dX7_setChurches_19 : decode cX7_setChurches 19 = .ok (.iastore, 1) := by decide +kernel
theorem dX7_setChurches_20 : decode cX7_setChurches 20 = .ok (.return_, 1) := by decide +kernel
theorem dX7_readings_0 : decode cX7_readings 0 = .ok (.aload_n 0, 1) := by decide +kernel
theorem dX7_readings_1 : decode cX7_readings 1 = .ok (.getfield 11, 3) := by decide +kernel
theorem dX7_readings_4 : decode cX7_readings 4 = .ok (.bipush 23, 2) := by decide +kernel
theorem dX7_readings_6 : decode cX7_readings 6 = .ok (.iload_n 1, 1) := by decide +kernel
theorem dX7_readings_7 : decode cX7_readings 7 = .ok (.iadd, 1) := by decide +kernel
theorem dX7_readings_8 : decode cX7_readings 8 = .ok (.iaload, 1) := by decide +kernel
theorem dX7_readings_9 : decode cX7_readings 9 = .ok (.ireturn, 1) := by decide +kernel
theorem dX7_addReading_0 : decode cX7_addReading 0 = .ok (.aload_n 0, 1) := by decide +kernel
theorem dX7_addReading_1 : decode cX7_addReading 1 = .ok (.getfield 11, 3) := by decide +kernel
theorem dX7_addReading_4 : decode cX7_addReading 4 = .ok (.bipush 23, 2) := by decide +kernel
theorem dX7_addReading_6 : decode cX7_addReading 6 = .ok (.iload_n 1, 1) := by decide +kernel
theorem dX7_addReading_7 : decode cX7_addReading 7 = .ok (.iadd, 1) := by decide +kernel
theorem dX7_addReading_8 : decode cX7_addReading 8 = .ok (.dup2, 1) := by decide +kernel
theorem dX7_addReading_9 : decode cX7_addReading 9 = .ok (.iaload, 1) := by decide +kernel
theorem dX7_addReading_10 : decode cX7_addReading 10 = .ok (.iconst 1, 1) := by decide +kernel
theorem dX7_addReading_11 : decode cX7_addReading 11 = .ok (.iadd, 1) := by decide +kernel
theorem dX7_addReading_12 : decode cX7_addReading 12 = .ok (.iastore, 1) := by decide +kernel
theorem dX7_addReading_13 : decode cX7_addReading 13 = .ok (.return_, 1) := by decide +kernel
theorem dX7_sundays_0 : decode cX7_sundays 0 = .ok (.aload_n 0, 1) := by decide +kernel
theorem dX7_sundays_1 : decode cX7_sundays 1 = .ok (.getfield 11, 3) := by decide +kernel
theorem dX7_sundays_4 : decode cX7_sundays 4 = .ok (.bipush 28, 2) := by decide +kernel
theorem dX7_sundays_6 : decode cX7_sundays 6 = .ok (.iaload, 1) := by decide +kernel
theorem dX7_sundays_7 : decode cX7_sundays 7 = .ok (.ireturn, 1) := by decide +kernel
theorem dX7_nextSunday_0 : decode cX7_nextSunday 0 = .ok (.aload_n 0, 1) := by decide +kernel
theorem dX7_nextSunday_1 : decode cX7_nextSunday 1 = .ok (.getfield 11, 3) := by decide +kernel
theorem dX7_nextSunday_4 : decode cX7_nextSunday 4 = .ok (.bipush 28, 2) := by decide +kernel
theorem dX7_nextSunday_6 : decode cX7_nextSunday 6 = .ok (.iaload, 1) := by decide +kernel
theorem dX7_nextSunday_7 : decode cX7_nextSunday 7 = .ok (.iconst 1, 1) := by decide +kernel
theorem dX7_nextSunday_8 : decode cX7_nextSunday 8 = .ok (.iadd, 1) := by decide +kernel
theorem dX7_nextSunday_9 : decode cX7_nextSunday 9 = .ok (.ireturn, 1) := by decide +kernel
theorem dX7_endSunday_0 : decode cX7_endSunday 0 = .ok (.aload_n 0, 1) := by decide +kernel
theorem dX7_endSunday_1 : decode cX7_endSunday 1 = .ok (.getfield 11, 3) := by decide +kernel
theorem dX7_endSunday_4 : decode cX7_endSunday 4 = .ok (.bipush 28, 2) := by decide +kernel
theorem dX7_endSunday_6 : decode cX7_endSunday 6 = .ok (.dup2, 1) := by decide +kernel
theorem dX7_endSunday_7 : decode cX7_endSunday 7 = .ok (.iaload, 1) := by decide +kernel
theorem dX7_endSunday_8 : decode cX7_endSunday 8 = .ok (.iconst 1, 1) := by decide +kernel
theorem dX7_endSunday_9 : decode cX7_endSunday 9 = .ok (.iadd, 1) := by decide +kernel
theorem dX7_endSunday_10 : decode cX7_endSunday 10 = .ok (.iastore, 1) := by decide +kernel
theorem dX7_endSunday_11 : decode cX7_endSunday 11 = .ok (.return_, 1) := by decide +kernel
theorem dX7_seed_0 : decode cX7_seed 0 = .ok (.aload_n 0, 1) := by decide +kernel
theorem dX7_seed_1 : decode cX7_seed 1 = .ok (.getfield 11, 3) := by decide +kernel
theorem dX7_seed_4 : decode cX7_seed 4 = .ok (.bipush 29, 2) := by decide +kernel
theorem dX7_seed_6 : decode cX7_seed 6 = .ok (.iaload, 1) := by decide +kernel
theorem dX7_seed_7 : decode cX7_seed 7 = .ok (.ireturn, 1) := by decide +kernel
theorem dX7_drawTenth_0 : decode cX7_drawTenth 0 = .ok (.aload_n 0, 1) := by decide +kernel
theorem dX7_drawTenth_1 : decode cX7_drawTenth 1 = .ok (.getfield 11, 3) := by decide +kernel
theorem dX7_drawTenth_4 : decode cX7_drawTenth 4 = .ok (.bipush 29, 2) := by decide +kernel
theorem dX7_drawTenth_6 : decode cX7_drawTenth 6 = .ok (.aload_n 0, 1) := by decide +kernel
theorem dX7_drawTenth_7 : decode cX7_drawTenth 7 = .ok (.getfield 11, 3) := by decide +kernel
theorem dX7_drawTenth_10 : decode cX7_drawTenth 10 = .ok (.bipush 29, 2) := by decide +kernel
theorem dX7_drawTenth_12 : decode cX7_drawTenth 12 = .ok (.iaload, 1) := by decide +kernel
theorem dX7_drawTenth_13 : decode cX7_drawTenth 13 = .ok (.sipush 137, 3) := by decide +kernel
theorem dX7_drawTenth_16 : decode cX7_drawTenth 16 = .ok (.imul, 1) := by decide +kernel
theorem dX7_drawTenth_17 : decode cX7_drawTenth 17 = .ok (.bipush 71, 2) := by decide +kernel
theorem dX7_drawTenth_19 : decode cX7_drawTenth 19 = .ok (.iadd, 1) := by decide +kernel
theorem dX7_drawTenth_20 : decode cX7_drawTenth 20 = .ok (.sipush 1000, 3) := by decide +kernel
theorem dX7_drawTenth_23 : decode cX7_drawTenth 23 = .ok (.irem, 1) := by decide +kernel
theorem dX7_drawTenth_24 : decode cX7_drawTenth 24 = .ok (.iastore, 1) := by decide +kernel
theorem dX7_drawTenth_25 : decode cX7_drawTenth 25 = .ok (.aload_n 0, 1) := by decide +kernel
theorem dX7_drawTenth_26 : decode cX7_drawTenth 26 = .ok (.getfield 11, 3) := by decide +kernel
theorem dX7_drawTenth_29 : decode cX7_drawTenth 29 = .ok (.bipush 29, 2) := by decide +kernel
theorem dX7_drawTenth_31 : decode cX7_drawTenth 31 = .ok (.iaload, 1) := by decide +kernel
theorem dX7_drawTenth_32 : decode cX7_drawTenth 32 = .ok (.bipush 10, 2) := by decide +kernel
theorem dX7_drawTenth_34 : decode cX7_drawTenth 34 = .ok (.irem, 1) := by decide +kernel
theorem dX7_drawTenth_35 : decode cX7_drawTenth 35 = .ok (.ireturn, 1) := by decide +kernel
theorem dX8_init_0 : decode cX8_init 0 = .ok (.aload_n 0, 1) := by decide +kernel
theorem dX8_init_1 : decode cX8_init 1 = .ok (.invokespecial 3, 3) := by decide +kernel
theorem dX8_init_4 : decode cX8_init 4 = .ok (.aload_n 0, 1) := by decide +kernel
theorem dX8_init_5 : decode cX8_init 5 = .ok (.sipush 1600, 3) := by decide +kernel
theorem dX8_init_8 : decode cX8_init 8 = .ok (.newarray .byte, 2) := by decide +kernel
theorem dX8_init_10 : decode cX8_init 10 = .ok (.putfield 11, 3) := by decide +kernel
theorem dX8_init_13 : decode cX8_init 13 = .ok (.aload_n 0, 1) := by decide +kernel
theorem dX8_init_14 : decode cX8_init 14 = .ok (.bipush 21, 2) := by decide +kernel
theorem dX8_init_16 : decode cX8_init 16 = .ok (.newarray .long, 2) := by decide +kernel
theorem dX8_init_18 : decode cX8_init 18 = .ok (.putfield 15, 3) := by decide +kernel
theorem dX8_init_21 : decode cX8_init 21 = .ok (.iconst 0, 1) := by decide +kernel
theorem dX8_init_22 : decode cX8_init 22 = .ok (.istore_n 1, 1) := by decide +kernel
theorem dX8_init_23 : decode cX8_init 23 = .ok (.iconst 0, 1) := by decide +kernel
theorem dX8_init_24 : decode cX8_init 24 = .ok (.istore_n 2, 1) := by decide +kernel
theorem dX8_init_25 : decode cX8_init 25 = .ok (.iload_n 2, 1) := by decide +kernel
theorem dX8_init_26 : decode cX8_init 26 = .ok (.ldc 19, 2) := by decide +kernel
theorem dX8_init_28 : decode cX8_init 28 = .ok (.invokevirtual 21, 3) := by decide +kernel
theorem dX8_init_31 : decode cX8_init 31 = .ok (.if_icmp .ge 50, 3) := by decide +kernel
theorem dX8_init_34 : decode cX8_init 34 = .ok (.ldc 19, 2) := by decide +kernel
theorem dX8_init_36 : decode cX8_init 36 = .ok (.iload_n 2, 1) := by decide +kernel
theorem dX8_init_37 : decode cX8_init 37 = .ok (.invokevirtual 27, 3) := by decide +kernel
theorem dX8_init_40 : decode cX8_init 40 = .ok (.istore_n 3, 1) := by decide +kernel
theorem dX8_init_41 : decode cX8_init 41 = .ok (.iload_n 3, 1) := by decide +kernel
theorem dX8_init_42 : decode cX8_init 42 = .ok (.bipush 32, 2) := by decide +kernel
theorem dX8_init_44 : decode cX8_init 44 = .ok (.if_icmp .ne 9, 3) := by decide +kernel
theorem dX8_init_47 : decode cX8_init 47 = .ok (.iinc 1 1, 3) := by decide +kernel
theorem dX8_init_50 : decode cX8_init 50 = .ok (.goto 25, 3) := by decide +kernel
theorem dX8_init_53 : decode cX8_init 53 = .ok (.iload_n 1, 1) := by decide +kernel
theorem dX8_init_54 : decode cX8_init 54 = .ok (.bipush 21, 2) := by decide +kernel
theorem dX8_init_56 : decode cX8_init 56 = .ok (.if_icmp .ge 19, 3) := by decide +kernel
theorem dX8_init_59 : decode cX8_init 59 = .ok (.aload_n 0, 1) := by decide +kernel
theorem dX8_init_60 : decode cX8_init 60 = .ok (.getfield 15, 3) := by decide +kernel
theorem dX8_init_63 : decode cX8_init 63 = .ok (.iload_n 1, 1) := by decide +kernel
theorem dX8_init_64 : decode cX8_init 64 = .ok (.aload_n 0, 1) := by decide +kernel
theorem dX8_init_65 : decode cX8_init 65 = .ok (.getfield 15, 3) := by decide +kernel
theorem dX8_init_68 : decode cX8_init 68 = .ok (.iload_n 1, 1) := by decide +kernel
theorem dX8_init_69 : decode cX8_init 69 = .ok (.laload, 1) := by decide +kernel
theorem dX8_init_70 : decode cX8_init 70 = .ok (.iload_n 3, 1) := by decide +kernel
theorem dX8_init_71 : decode cX8_init 71 = .ok (.invokestatic 31, 3) := by decide +kernel
theorem dX8_init_74 : decode cX8_init 74 = .ok (.lastore, 1) := by decide +kernel
theorem dX8_init_75 : decode cX8_init 75 = .ok (.iinc 2 1, 3) := by decide +kernel
theorem dX8_init_78 : decode cX8_init 78 = .ok (.goto (-53), 3) := by decide +kernel
theorem dX8_init_81 : decode cX8_init 81 = .ok (.return_, 1) := by decide +kernel
theorem dX8_hasRoom_0 : decode cX8_hasRoom 0 = .ok (.aload_n 0, 1) := by decide +kernel
theorem dX8_hasRoom_1 : decode cX8_hasRoom 1 = .ok (.getfield 35, 3) := by decide +kernel
theorem dX8_hasRoom_4 : decode cX8_hasRoom 4 = .ok (.iload_n 1, 1) := by decide +kernel
theorem dX8_hasRoom_5 : decode cX8_hasRoom 5 = .ok (.iadd, 1) := by decide +kernel
theorem dX8_hasRoom_6 : decode cX8_hasRoom 6 = .ok (.sipush 1600, 3) := by decide +kernel
theorem dX8_hasRoom_9 : decode cX8_hasRoom 9 = .ok (.if_icmp .gt 7, 3) := by decide +kernel
theorem dX8_hasRoom_12 : decode cX8_hasRoom 12 = .ok (.iconst 1, 1) := by decide +kernel
theorem dX8_hasRoom_13 : decode cX8_hasRoom 13 = .ok (.goto 4, 3) := by decide +kernel
theorem dX8_hasRoom_16 : decode cX8_hasRoom 16 = .ok (.iconst 0, 1) := by decide +kernel
theorem dX8_hasRoom_17 : decode cX8_hasRoom 17 = .ok (.ireturn, 1) := by decide +kernel
theorem dX8_put_0 : decode cX8_put 0 = .ok (.bipush 24, 2) := by decide +kernel
theorem dX8_put_2 : decode cX8_put 2 = .ok (.istore_n 2, 1) := by decide +kernel
theorem dX8_put_3 : decode cX8_put 3 = .ok (.iload_n 2, 1) := by decide +kernel
theorem dX8_put_4 : decode cX8_put 4 = .ok (.ifCond .lt 42, 3) := by decide +kernel
theorem dX8_put_7 : decode cX8_put 7 = .ok (.aload_n 0, 1) := by decide +kernel
theorem dX8_put_8 : decode cX8_put 8 = .ok (.getfield 35, 3) := by decide +kernel
theorem dX8_put_11 : decode cX8_put 11 = .ok (.sipush 1600, 3) := by decide +kernel
theorem dX8_put_14 : decode cX8_put 14 = .ok (.if_icmp .ge 26, 3) := by decide +kernel
theorem dX8_put_17 : decode cX8_put 17 = .ok (.aload_n 0, 1) := by decide +kernel
theorem dX8_put_18 : decode cX8_put 18 = .ok (.getfield 11, 3) := by decide +kernel
theorem dX8_put_21 : decode cX8_put 21 = .ok (.aload_n 0, 1) := by decide +kernel
theorem dX8_put_22 : decode cX8_put 22 = .ok (.getfield 35, 3) := by decide +kernel
theorem dX8_put_25 : decode cX8_put 25 = .ok (.iload_n 1, 1) := by decide +kernel
theorem dX8_put_26 : decode cX8_put 26 = .ok (.iload_n 2, 1) := by decide +kernel
theorem dX8_put_27 : decode cX8_put 27 = .ok (.ishr, 1) := by decide +kernel
theorem dX8_put_28 : decode cX8_put 28 = .ok (.i2b, 1) := by decide +kernel
theorem dX8_put_29 : decode cX8_put 29 = .ok (.bastore, 1) := by decide +kernel
theorem dX8_put_30 : decode cX8_put 30 = .ok (.aload_n 0, 1) := by decide +kernel
theorem dX8_put_31 : decode cX8_put 31 = .ok (.dup, 1) := by decide +kernel
theorem dX8_put_32 : decode cX8_put 32 = .ok (.getfield 35, 3) := by decide +kernel
theorem dX8_put_35 : decode cX8_put 35 = .ok (.iconst 1, 1) := by decide +kernel
theorem dX8_put_36 : decode cX8_put 36 = .ok (.iadd, 1) := by decide +kernel
theorem dX8_put_37 : decode cX8_put 37 = .ok (.putfield 35, 3) := by decide +kernel
theorem dX8_put_40 : decode cX8_put 40 = .ok (.iinc 2 (-8), 3) := by decide +kernel
theorem dX8_put_43 : decode cX8_put 43 = .ok (.goto (-40), 3) := by decide +kernel
theorem dX8_put_46 : decode cX8_put 46 = .ok (.return_, 1) := by decide +kernel
theorem dX8_rewind_0 : decode cX8_rewind 0 = .ok (.aload_n 0, 1) := by decide +kernel
theorem dX8_rewind_1 : decode cX8_rewind 1 = .ok (.iconst 0, 1) := by decide +kernel
theorem dX8_rewind_2 : decode cX8_rewind 2 = .ok (.putfield 38, 3) := by decide +kernel
theorem dX8_rewind_5 : decode cX8_rewind 5 = .ok (.aload_n 0, 1) := by decide +kernel
theorem dX8_rewind_6 : decode cX8_rewind 6 = .ok (.invokevirtual 41, 3) := by decide +kernel
theorem dX8_rewind_9 : decode cX8_rewind 9 = .ok (.return_, 1) := by decide +kernel
theorem dX8_advance_0 : decode cX8_advance 0 = .ok (.aload_n 0, 1) := by decide +kernel
theorem dX8_advance_1 : decode cX8_advance 1 = .ok (.getfield 38, 3) := by decide +kernel
theorem dX8_advance_4 : decode cX8_advance 4 = .ok (.aload_n 0, 1) := by decide +kernel
theorem dX8_advance_5 : decode cX8_advance 5 = .ok (.getfield 35, 3) := by decide +kernel
theorem dX8_advance_8 : decode cX8_advance 8 = .ok (.if_icmp .ge 30, 3) := by decide +kernel
theorem dX8_advance_11 : decode cX8_advance 11 = .ok (.aload_n 0, 1) := by decide +kernel
theorem dX8_advance_12 : decode cX8_advance 12 = .ok (.aload_n 0, 1) := by decide +kernel
theorem dX8_advance_13 : decode cX8_advance 13 = .ok (.getfield 38, 3) := by decide +kernel
theorem dX8_advance_16 : decode cX8_advance 16 = .ok (.invokevirtual 44, 3) := by decide +kernel
theorem dX8_advance_19 : decode cX8_advance 19 = .ok (.invokestatic 48, 3) := by decide +kernel
theorem dX8_advance_22 : decode cX8_advance 22 = .ok (.ifCond .eq 16, 3) := by decide +kernel
theorem dX8_advance_25 : decode cX8_advance 25 = .ok (.aload_n 0, 1) := by decide +kernel
theorem dX8_advance_26 : decode cX8_advance 26 = .ok (.dup, 1) := by decide +kernel
theorem dX8_advance_27 : decode cX8_advance 27 = .ok (.getfield 38, 3) := by decide +kernel
theorem dX8_advance_30 : decode cX8_advance 30 = .ok (.iconst 1, 1) := by decide +kernel
theorem dX8_advance_31 : decode cX8_advance 31 = .ok (.iadd, 1) := by decide +kernel
theorem dX8_advance_32 : decode cX8_advance 32 = .ok (.putfield 38, 3) := by decide +kernel
theorem dX8_advance_35 : decode cX8_advance 35 = .ok (.goto (-35), 3) := by decide +kernel
theorem dX8_advance_38 : decode cX8_advance 38 = .ok (.aload_n 0, 1) := by decide +kernel
theorem dX8_advance_39 : decode cX8_advance 39 = .ok (.aload_n 0, 1) := by decide +kernel
theorem dX8_advance_40 : decode cX8_advance 40 = .ok (.getfield 38, 3) := by decide +kernel
theorem dX8_advance_43 : decode cX8_advance 43 = .ok (.putfield 52, 3) := by decide +kernel
theorem dX8_advance_46 : decode cX8_advance 46 = .ok (.aload_n 0, 1) := by decide +kernel
theorem dX8_advance_47 : decode cX8_advance 47 = .ok (.iconst 0, 1) := by decide +kernel
theorem dX8_advance_48 : decode cX8_advance 48 = .ok (.putfield 55, 3) := by decide +kernel
theorem dX8_advance_51 : decode cX8_advance 51 = .ok (.aload_n 0, 1) := by decide +kernel
theorem dX8_advance_52 : decode cX8_advance 52 = .ok (.lconst 0, 1) := by decide +kernel
theorem dX8_advance_53 : decode cX8_advance 53 = .ok (.putfield 58, 3) := by decide +kernel
theorem dX8_advance_56 : decode cX8_advance 56 = .ok (.aload_n 0, 1) := by decide +kernel
theorem dX8_advance_57 : decode cX8_advance 57 = .ok (.aload_n 0, 1) := by decide +kernel
theorem dX8_advance_58 : decode cX8_advance 58 = .ok (.getfield 38, 3) := by decide +kernel
theorem dX8_advance_61 : decode cX8_advance 61 = .ok (.invokevirtual 44, 3) := by decide +kernel
theorem dX8_advance_64 : decode cX8_advance 64 = .ok (.istore_n 1, 1) := by decide +kernel
theorem dX8_advance_65 : decode cX8_advance 65 = .ok (.iload_n 1, 1) := by decide +kernel
theorem dX8_advance_66 : decode cX8_advance 66 = .ok (.iconst (-1), 1) := by decide +kernel
theorem dX8_advance_67 : decode cX8_advance 67 = .ok (.if_icmp .ne 11, 3) := by decide +kernel
theorem dX8_advance_70 : decode cX8_advance 70 = .ok (.aload_n 0, 1) := by decide +kernel
theorem dX8_advance_71 : decode cX8_advance 71 = .ok (.iconst 0, 1) := by decide +kernel
theorem dX8_advance_72 : decode cX8_advance 72 = .ok (.putfield 62, 3) := by decide +kernel
theorem dX8_advance_75 : decode cX8_advance 75 = .ok (.goto 36, 3) := by decide +kernel
theorem dX8_advance_78 : decode cX8_advance 78 = .ok (.iload_n 1, 1) := by decide +kernel
theorem dX8_advance_79 : decode cX8_advance 79 = .ok (.invokestatic 65, 3) := by decide +kernel
theorem dX8_advance_82 : decode cX8_advance 82 = .ok (.ifCond .eq 10, 3) := by decide +kernel
theorem dX8_advance_85 : decode cX8_advance 85 = .ok (.aload_n 0, 1) := by decide +kernel
theorem dX8_advance_86 : decode cX8_advance 86 = .ok (.invokevirtual 68, 3) := by decide +kernel
theorem dX8_advance_89 : decode cX8_advance 89 = .ok (.goto 22, 3) := by decide +kernel
theorem dX8_advance_92 : decode cX8_advance 92 = .ok (.iload_n 1, 1) := by decide +kernel
theorem dX8_advance_93 : decode cX8_advance 93 = .ok (.invokestatic 71, 3) := by decide +kernel
theorem dX8_advance_96 : decode cX8_advance 96 = .ok (.ifCond .eq 10, 3) := by decide +kernel
theorem dX8_advance_99 : decode cX8_advance 99 = .ok (.aload_n 0, 1) := by decide +kernel
theorem dX8_advance_100 : decode cX8_advance 100 = .ok (.invokevirtual 74, 3) := by decide +kernel
theorem dX8_advance_103 : decode cX8_advance 103 = .ok (.goto 8, 3) := by decide +kernel
theorem dX8_advance_106 : decode cX8_advance 106 = .ok (.aload_n 0, 1) := by decide +kernel
theorem dX8_advance_107 : decode cX8_advance 107 = .ok (.iload_n 1, 1) := by decide +kernel
theorem dX8_advance_108 : decode cX8_advance 108 = .ok (.invokevirtual 77, 3) := by decide +kernel
theorem dX8_advance_111 : decode cX8_advance 111 = .ok (.return_, 1) := by decide +kernel
theorem dX8_isWord_0 : decode cX8_isWord 0 = .ok (.aload_n 0, 1) := by decide +kernel
theorem dX8_isWord_1 : decode cX8_isWord 1 = .ok (.getfield 62, 3) := by decide +kernel
theorem dX8_isWord_4 : decode cX8_isWord 4 = .ok (.iconst 3, 1) := by decide +kernel
theorem dX8_isWord_5 : decode cX8_isWord 5 = .ok (.if_icmp .ne 15, 3) := by decide +kernel
theorem dX8_isWord_8 : decode cX8_isWord 8 = .ok (.aload_n 0, 1) := by decide +kernel
theorem dX8_isWord_9 : decode cX8_isWord 9 = .ok (.getfield 55, 3) := by decide +kernel
theorem dX8_isWord_12 : decode cX8_isWord 12 = .ok (.iload_n 1, 1) := by decide +kernel
theorem dX8_isWord_13 : decode cX8_isWord 13 = .ok (.if_icmp .ne 7, 3) := by decide +kernel
theorem dX8_isWord_16 : decode cX8_isWord 16 = .ok (.iconst 1, 1) := by decide +kernel
theorem dX8_isWord_17 : decode cX8_isWord 17 = .ok (.goto 4, 3) := by decide +kernel
theorem dX8_isWord_20 : decode cX8_isWord 20 = .ok (.iconst 0, 1) := by decide +kernel
theorem dX8_isWord_21 : decode cX8_isWord 21 = .ok (.ireturn, 1) := by decide +kernel
theorem dX8_isSign_0 : decode cX8_isSign 0 = .ok (.aload_n 0, 1) := by decide +kernel
theorem dX8_isSign_1 : decode cX8_isSign 1 = .ok (.getfield 62, 3) := by decide +kernel
theorem dX8_isSign_4 : decode cX8_isSign 4 = .ok (.iconst 5, 1) := by decide +kernel
theorem dX8_isSign_5 : decode cX8_isSign 5 = .ok (.if_icmp .ne 15, 3) := by decide +kernel
theorem dX8_isSign_8 : decode cX8_isSign 8 = .ok (.aload_n 0, 1) := by decide +kernel
theorem dX8_isSign_9 : decode cX8_isSign 9 = .ok (.getfield 55, 3) := by decide +kernel
theorem dX8_isSign_12 : decode cX8_isSign 12 = .ok (.iload_n 1, 1) := by decide +kernel
theorem dX8_isSign_13 : decode cX8_isSign 13 = .ok (.if_icmp .ne 7, 3) := by decide +kernel
theorem dX8_isSign_16 : decode cX8_isSign 16 = .ok (.iconst 1, 1) := by decide +kernel
theorem dX8_isSign_17 : decode cX8_isSign 17 = .ok (.goto 4, 3) := by decide +kernel
theorem dX8_isSign_20 : decode cX8_isSign 20 = .ok (.iconst 0, 1) := by decide +kernel
theorem dX8_isSign_21 : decode cX8_isSign 21 = .ok (.ireturn, 1) := by decide +kernel
theorem dX8_takeWord_0 : decode cX8_takeWord 0 = .ok (.aload_n 0, 1) := by decide +kernel
theorem dX8_takeWord_1 : decode cX8_takeWord 1 = .ok (.getfield 38, 3) := by decide +kernel
theorem dX8_takeWord_4 : decode cX8_takeWord 4 = .ok (.aload_n 0, 1) := by decide +kernel
theorem dX8_takeWord_5 : decode cX8_takeWord 5 = .ok (.getfield 35, 3) := by decide +kernel
theorem dX8_takeWord_8 : decode cX8_takeWord 8 = .ok (.if_icmp .ge 49, 3) := by decide +kernel
theorem dX8_takeWord_11 : decode cX8_takeWord 11 = .ok (.aload_n 0, 1) := by decide +kernel
theorem dX8_takeWord_12 : decode cX8_takeWord 12 = .ok (.aload_n 0, 1) := by decide +kernel
theorem dX8_takeWord_13 : decode cX8_takeWord 13 = .ok (.getfield 38, 3) := by decide +kernel
theorem dX8_takeWord_16 : decode cX8_takeWord 16 = .ok (.invokevirtual 44, 3) := by decide +kernel
theorem dX8_takeWord_19 : decode cX8_takeWord 19 = .ok (.invokestatic 65, 3) := by decide +kernel
theorem dX8_takeWord_22 : decode cX8_takeWord 22 = .ok (.ifCond .eq 35, 3) := by decide +kernel
theorem dX8_takeWord_25 : decode cX8_takeWord 25 = .ok (.aload_n 0, 1) := by decide +kernel
theorem dX8_takeWord_26 : decode cX8_takeWord 26 = .ok (.aload_n 0, 1) := by decide +kernel
theorem dX8_takeWord_27 : decode cX8_takeWord 27 = .ok (.getfield 58, 3) := by decide +kernel
theorem dX8_takeWord_30 : decode cX8_takeWord 30 = .ok (.aload_n 0, 1) := by decide +kernel
theorem dX8_takeWord_31 : decode cX8_takeWord 31 = .ok (.aload_n 0, 1) := by decide +kernel
theorem dX8_takeWord_32 : decode cX8_takeWord 32 = .ok (.getfield 38, 3) := by decide +kernel
theorem dX8_takeWord_35 : decode cX8_takeWord 35 = .ok (.invokevirtual 44, 3) := by decide +kernel
theorem dX8_takeWord_38 : decode cX8_takeWord 38 = .ok (.invokestatic 31, 3) := by decide +kernel
theorem dX8_takeWord_41 : decode cX8_takeWord 41 = .ok (.putfield 58, 3) := by decide +kernel
theorem dX8_takeWord_44 : decode cX8_takeWord 44 = .ok (.aload_n 0, 1) := by decide +kernel
theorem dX8_takeWord_45 : decode cX8_takeWord 45 = .ok (.dup, 1) := by decide +kernel
theorem dX8_takeWord_46 : decode cX8_takeWord 46 = .ok (.getfield 38, 3) := by decide +kernel
theorem dX8_takeWord_49 : decode cX8_takeWord 49 = .ok (.iconst 1, 1) := by decide +kernel
theorem dX8_takeWord_50 : decode cX8_takeWord 50 = .ok (.iadd, 1) := by decide +kernel
theorem dX8_takeWord_51 : decode cX8_takeWord 51 = .ok (.putfield 38, 3) := by decide +kernel
theorem dX8_takeWord_54 : decode cX8_takeWord 54 = .ok (.goto (-54), 3) := by decide +kernel
theorem dX8_takeWord_57 : decode cX8_takeWord 57 = .ok (.aload_n 0, 1) := by decide +kernel
theorem dX8_takeWord_58 : decode cX8_takeWord 58 = .ok (.getfield 38, 3) := by decide +kernel
theorem dX8_takeWord_61 : decode cX8_takeWord 61 = .ok (.aload_n 0, 1) := by decide +kernel
theorem dX8_takeWord_62 : decode cX8_takeWord 62 = .ok (.getfield 52, 3) := by decide +kernel
theorem dX8_takeWord_65 : decode cX8_takeWord 65 = .ok (.isub, 1) := by decide +kernel
theorem dX8_takeWord_66 : decode cX8_takeWord 66 = .ok (.bipush 8, 2) := by decide +kernel
theorem dX8_takeWord_68 : decode cX8_takeWord 68 = .ok (.if_icmp .le 9, 3) := by decide +kernel
theorem dX8_takeWord_71 : decode cX8_takeWord 71 = .ok (.aload_n 0, 1) := by decide +kernel
theorem dX8_takeWord_72 : decode cX8_takeWord 72 = .ok (.iconst 1, 1) := by decide +kernel
theorem dX8_takeWord_73 : decode cX8_takeWord 73 = .ok (.putfield 62, 3) := by decide +kernel
theorem dX8_takeWord_76 : decode cX8_takeWord 76 = .ok (.return_, 1) := by decide +kernel
theorem dX8_takeWord_77 : decode cX8_takeWord 77 = .ok (.aload_n 0, 1) := by decide +kernel
theorem dX8_takeWord_78 : decode cX8_takeWord 78 = .ok (.iconst 2, 1) := by decide +kernel
theorem dX8_takeWord_79 : decode cX8_takeWord 79 = .ok (.putfield 62, 3) := by decide +kernel
theorem dX8_takeWord_82 : decode cX8_takeWord 82 = .ok (.iconst 0, 1) := by decide +kernel
theorem dX8_takeWord_83 : decode cX8_takeWord 83 = .ok (.istore_n 1, 1) := by decide +kernel
theorem dX8_takeWord_84 : decode cX8_takeWord 84 = .ok (.iload_n 1, 1) := by decide +kernel
theorem dX8_takeWord_85 : decode cX8_takeWord 85 = .ok (.bipush 21, 2) := by decide +kernel
theorem dX8_takeWord_87 : decode cX8_takeWord 87 = .ok (.if_icmp .ge 33, 3) := by decide +kernel
theorem dX8_takeWord_90 : decode cX8_takeWord 90 = .ok (.aload_n 0, 1) := by decide +kernel
theorem dX8_takeWord_91 : decode cX8_takeWord 91 = .ok (.getfield 15, 3) := by decide +kernel
theorem dX8_takeWord_94 : decode cX8_takeWord 94 = .ok (.iload_n 1, 1) := by decide +kernel
theorem dX8_takeWord_95 : decode cX8_takeWord 95 = .ok (.laload, 1) := by decide +kernel
theorem dX8_takeWord_96 : decode cX8_takeWord 96 = .ok (.aload_n 0, 1) := by decide +kernel
theorem dX8_takeWord_97 : decode cX8_takeWord 97 = .ok (.getfield 58, 3) := by decide +kernel
theorem dX8_takeWord_100 : decode cX8_takeWord 100 = .ok (.lcmp, 1) := by decide +kernel
theorem dX8_takeWord_101 : decode cX8_takeWord 101 = .ok (.ifCond .ne 13, 3) := by decide +kernel
theorem dX8_takeWord_104 : decode cX8_takeWord 104 = .ok (.aload_n 0, 1) := by decide +kernel
theorem dX8_takeWord_105 : decode cX8_takeWord 105 = .ok (.iconst 3, 1) := by decide +kernel
theorem dX8_takeWord_106 : decode cX8_takeWord 106 = .ok (.putfield 62, 3) := by decide +kernel
theorem dX8_takeWord_109 : decode cX8_takeWord 109 = .ok (.aload_n 0, 1) := by decide +kernel
theorem dX8_takeWord_110 : decode cX8_takeWord 110 = .ok (.iload_n 1, 1) := by decide +kernel
theorem dX8_takeWord_111 : decode cX8_takeWord 111 = .ok (.putfield 55, 3) := by decide +kernel
theorem dX8_takeWord_114 : decode cX8_takeWord 114 = .ok (.iinc 1 1, 3) := by decide +kernel
theorem dX8_takeWord_117 : decode cX8_takeWord 117 = .ok (.goto (-33), 3) := by decide +kernel
theorem dX8_takeWord_120 : decode cX8_takeWord 120 = .ok (.return_, 1) := by decide +kernel
theorem dX8_takeNumber_0 : decode cX8_takeNumber 0 = .ok (.aload_n 0, 1) := by decide +kernel
theorem dX8_takeNumber_1 : decode cX8_takeNumber 1 = .ok (.getfield 38, 3) := by decide +kernel
theorem dX8_takeNumber_4 : decode cX8_takeNumber 4 = .ok (.aload_n 0, 1) := by decide +kernel
theorem dX8_takeNumber_5 : decode cX8_takeNumber 5 = .ok (.getfield 35, 3) := by decide +kernel
theorem dX8_takeNumber_8 : decode cX8_takeNumber 8 = .ok (.if_icmp .ge 53, 3) := by decide +kernel
theorem dX8_takeNumber_11 : decode cX8_takeNumber 11 = .ok (.aload_n 0, 1) := by decide +kernel
theorem dX8_takeNumber_12 : decode cX8_takeNumber 12 = .ok (.aload_n 0, 1) := by decide +kernel
theorem dX8_takeNumber_13 : decode cX8_takeNumber 13 = .ok (.getfield 38, 3) := by decide +kernel
theorem dX8_takeNumber_16 : decode cX8_takeNumber 16 = .ok (.invokevirtual 44, 3) := by decide +kernel
theorem dX8_takeNumber_19 : decode cX8_takeNumber 19 = .ok (.invokestatic 71, 3) := by decide +kernel
theorem dX8_takeNumber_22 : decode cX8_takeNumber 22 = .ok (.ifCond .eq 39, 3) := by decide +kernel
theorem dX8_takeNumber_25 : decode cX8_takeNumber 25 = .ok (.aload_n 0, 1) := by decide +kernel
theorem dX8_takeNumber_26 : decode cX8_takeNumber 26 = .ok (.aload_n 0, 1) := by decide +kernel
theorem dX8_takeNumber_27 : decode cX8_takeNumber 27 = .ok (.getfield 55, 3) := by decide +kernel
theorem dX8_takeNumber_30 : decode cX8_takeNumber 30 = .ok (.bipush 10, 2) := by decide +kernel
theorem dX8_takeNumber_32 : decode cX8_takeNumber 32 = .ok (.imul, 1) := by decide +kernel
theorem dX8_takeNumber_33 : decode cX8_takeNumber 33 = .ok (.aload_n 0, 1) := by decide +kernel
theorem dX8_takeNumber_34 : decode cX8_takeNumber 34 = .ok (.aload_n 0, 1) := by decide +kernel
theorem dX8_takeNumber_35 : decode cX8_takeNumber 35 = .ok (.getfield 38, 3) := by decide +kernel
theorem dX8_takeNumber_38 : decode cX8_takeNumber 38 = .ok (.invokevirtual 44, 3) := by decide +kernel
theorem dX8_takeNumber_41 : decode cX8_takeNumber 41 = .ok (.iadd, 1) := by decide +kernel
theorem dX8_takeNumber_42 : decode cX8_takeNumber 42 = .ok (.bipush 48, 2) := by decide +kernel
theorem dX8_takeNumber_44 : decode cX8_takeNumber 44 = .ok (.isub, 1) := by decide +kernel
theorem dX8_takeNumber_45 : decode cX8_takeNumber 45 = .ok (.putfield 55, 3) := by decide +kernel
theorem dX8_takeNumber_48 : decode cX8_takeNumber 48 = .ok (.aload_n 0, 1) := by decide +kernel
theorem dX8_takeNumber_49 : decode cX8_takeNumber 49 = .ok (.dup, 1) := by decide +kernel
theorem dX8_takeNumber_50 : decode cX8_takeNumber 50 = .ok (.getfield 38, 3) := by decide +kernel
theorem dX8_takeNumber_53 : decode cX8_takeNumber 53 = .ok (.iconst 1, 1) := by decide +kernel
theorem dX8_takeNumber_54 : decode cX8_takeNumber 54 = .ok (.iadd, 1) := by decide +kernel
theorem dX8_takeNumber_55 : decode cX8_takeNumber 55 = .ok (.putfield 38, 3) := by decide +kernel
theorem dX8_takeNumber_58 : decode cX8_takeNumber 58 = .ok (.goto (-58), 3) := by decide +kernel
theorem dX8_takeNumber_61 : decode cX8_takeNumber 61 = .ok (.aload_n 0, 1) := by decide +kernel
theorem dX8_takeNumber_62 : decode cX8_takeNumber 62 = .ok (.aload_n 0, 1) := by decide +kernel
theorem dX8_takeNumber_63 : decode cX8_takeNumber 63 = .ok (.getfield 38, 3) := by decide +kernel
theorem dX8_takeNumber_66 : decode cX8_takeNumber 66 = .ok (.aload_n 0, 1) := by decide +kernel
theorem dX8_takeNumber_67 : decode cX8_takeNumber 67 = .ok (.getfield 52, 3) := by decide +kernel
theorem dX8_takeNumber_70 : decode cX8_takeNumber 70 = .ok (.isub, 1) := by decide +kernel
theorem dX8_takeNumber_71 : decode cX8_takeNumber 71 = .ok (.iconst 4, 1) := by decide +kernel
theorem dX8_takeNumber_72 : decode cX8_takeNumber 72 = .ok (.if_icmp .gt 17, 3) := by decide +kernel
theorem dX8_takeNumber_75 : decode cX8_takeNumber 75 = .ok (.aload_n 0, 1) := by decide +kernel
theorem dX8_takeNumber_76 : decode cX8_takeNumber 76 = .ok (.aload_n 0, 1) := by decide +kernel
theorem dX8_takeNumber_77 : decode cX8_takeNumber 77 = .ok (.getfield 38, 3) := by decide +kernel
theorem dX8_takeNumber_80 : decode cX8_takeNumber 80 = .ok (.invokevirtual 44, 3) := by decide +kernel
theorem dX8_takeNumber_83 : decode cX8_takeNumber 83 = .ok (.invokestatic 65, 3) := by decide +kernel
theorem dX8_takeNumber_86 : decode cX8_takeNumber 86 = .ok (.ifCond .eq 7, 3) := by decide +kernel
theorem dX8_takeNumber_89 : decode cX8_takeNumber 89 = .ok (.iconst 1, 1) := by decide +kernel
theorem dX8_takeNumber_90 : decode cX8_takeNumber 90 = .ok (.goto 4, 3) := by decide +kernel
theorem dX8_takeNumber_93 : decode cX8_takeNumber 93 = .ok (.iconst 4, 1) := by decide +kernel
theorem dX8_takeNumber_94 : decode cX8_takeNumber 94 = .ok (.putfield 62, 3) := by decide +kernel
theorem dX8_takeNumber_97 : decode cX8_takeNumber 97 = .ok (.return_, 1) := by decide +kernel
theorem dX8_takeSign_0 : decode cX8_takeSign 0 = .ok (.aload_n 0, 1) := by decide +kernel
theorem dX8_takeSign_1 : decode cX8_takeSign 1 = .ok (.ldc 81, 2) := by decide +kernel
theorem dX8_takeSign_3 : decode cX8_takeSign 3 = .ok (.iload_n 1, 1) := by decide +kernel
theorem dX8_takeSign_4 : decode cX8_takeSign 4 = .ok (.i2c, 1) := by decide +kernel
theorem dX8_takeSign_5 : decode cX8_takeSign 5 = .ok (.invokevirtual 83, 3) := by decide +kernel
theorem dX8_takeSign_8 : decode cX8_takeSign 8 = .ok (.ifCond .ge 7, 3) := by decide +kernel
theorem dX8_takeSign_11 : decode cX8_takeSign 11 = .ok (.iconst 1, 1) := by decide +kernel
theorem dX8_takeSign_12 : decode cX8_takeSign 12 = .ok (.goto 4, 3) := by decide +kernel
theorem dX8_takeSign_15 : decode cX8_takeSign 15 = .ok (.iconst 5, 1) := by decide +kernel
theorem dX8_takeSign_16 : decode cX8_takeSign 16 = .ok (.putfield 62, 3) := by decide +kernel
theorem dX8_takeSign_19 : decode cX8_takeSign 19 = .ok (.aload_n 0, 1) := by decide +kernel
theorem dX8_takeSign_20 : decode cX8_takeSign 20 = .ok (.iload_n 1, 1) := by decide +kernel
theorem dX8_takeSign_21 : decode cX8_takeSign 21 = .ok (.putfield 55, 3) := by decide +kernel
theorem dX8_takeSign_24 : decode cX8_takeSign 24 = .ok (.aload_n 0, 1) := by decide +kernel
theorem dX8_takeSign_25 : decode cX8_takeSign 25 = .ok (.dup, 1) := by decide +kernel
theorem dX8_takeSign_26 : decode cX8_takeSign 26 = .ok (.getfield 38, 3) := by decide +kernel
theorem dX8_takeSign_29 : decode cX8_takeSign 29 = .ok (.iconst 1, 1) := by decide +kernel
theorem dX8_takeSign_30 : decode cX8_takeSign 30 = .ok (.iadd, 1) := by decide +kernel
theorem dX8_takeSign_31 : decode cX8_takeSign 31 = .ok (.putfield 38, 3) := by decide +kernel
theorem dX8_takeSign_34 : decode cX8_takeSign 34 = .ok (.return_, 1) := by decide +kernel
theorem dX8_byteAt_0 : decode cX8_byteAt 0 = .ok (.iload_n 1, 1) := by decide +kernel
theorem dX8_byteAt_1 : decode cX8_byteAt 1 = .ok (.ifCond .lt 31, 3) := by decide +kernel
theorem dX8_byteAt_4 : decode cX8_byteAt 4 = .ok (.iload_n 1, 1) := by decide +kernel
theorem dX8_byteAt_5 : decode cX8_byteAt 5 = .ok (.aload_n 0, 1) := by decide +kernel
theorem dX8_byteAt_6 : decode cX8_byteAt 6 = .ok (.getfield 35, 3) := by decide +kernel
theorem dX8_byteAt_9 : decode cX8_byteAt 9 = .ok (.if_icmp .ge 23, 3) := by decide +kernel
theorem dX8_byteAt_12 : decode cX8_byteAt 12 = .ok (.iload_n 1, 1) := by decide +kernel
theorem dX8_byteAt_13 : decode cX8_byteAt 13 = .ok (.sipush 1600, 3) := by decide +kernel
theorem dX8_byteAt_16 : decode cX8_byteAt 16 = .ok (.if_icmp .ge 16, 3) := by decide +kernel
theorem dX8_byteAt_19 : decode cX8_byteAt 19 = .ok (.aload_n 0, 1) := by decide +kernel
theorem dX8_byteAt_20 : decode cX8_byteAt 20 = .ok (.getfield 11, 3) := by decide +kernel
theorem dX8_byteAt_23 : decode cX8_byteAt 23 = .ok (.iload_n 1, 1) := by decide +kernel
theorem dX8_byteAt_24 : decode cX8_byteAt 24 = .ok (.baload, 1) := by decide +kernel
theorem dX8_byteAt_25 : decode cX8_byteAt 25 = .ok (.sipush 255, 3) := by decide +kernel
theorem dX8_byteAt_28 : decode cX8_byteAt 28 = .ok (.iand, 1) := by decide +kernel
theorem dX8_byteAt_29 : decode cX8_byteAt 29 = .ok (.goto 4, 3) := by decide +kernel
theorem dX8_byteAt_32 : decode cX8_byteAt 32 = .ok (.iconst (-1), 1) := by decide +kernel
theorem dX8_byteAt_33 : decode cX8_byteAt 33 = .ok (.ireturn, 1) := by decide +kernel
theorem dX8_withLetter_0 : decode cX8_withLetter 0 = .ok (.lload_n 0, 1) := by decide +kernel
theorem dX8_withLetter_1 : decode cX8_withLetter 1 = .ok (.iconst 5, 1) := by decide +kernel
theorem dX8_withLetter_2 : decode cX8_withLetter 2 = .ok (.lshl, 1) := by decide +kernel
theorem dX8_withLetter_3 : decode cX8_withLetter 3 = .ok (.iload_n 2, 1) := by decide +kernel
theorem dX8_withLetter_4 : decode cX8_withLetter 4 = .ok (.bipush 97, 2) := by decide +kernel
theorem dX8_withLetter_6 : decode cX8_withLetter 6 = .ok (.isub, 1) := by decide +kernel
theorem dX8_withLetter_7 : decode cX8_withLetter 7 = .ok (.iconst 1, 1) := by decide +kernel
theorem dX8_withLetter_8 : decode cX8_withLetter 8 = .ok (.iadd, 1) := by decide +kernel
theorem dX8_withLetter_9 : decode cX8_withLetter 9 = .ok (.i2l, 1) := by decide +kernel
theorem dX8_withLetter_10 : decode cX8_withLetter 10 = .ok (.lor, 1) := by decide +kernel
theorem dX8_withLetter_11 : decode cX8_withLetter 11 = .ok (.lreturn, 1) := by decide +kernel
theorem dX8_isBlank_0 : decode cX8_isBlank 0 = .ok (.iload_n 0, 1) := by decide +kernel
theorem dX8_isBlank_1 : decode cX8_isBlank 1 = .ok (.bipush 32, 2) := by decide +kernel
theorem dX8_isBlank_3 : decode cX8_isBlank 3 = .ok (.if_icmp .eq 9, 3) := by decide +kernel
theorem dX8_isBlank_6 : decode cX8_isBlank 6 = .ok (.iload_n 0, 1) := by decide +kernel
theorem dX8_isBlank_7 : decode cX8_isBlank 7 = .ok (.bipush 10, 2) := by decide +kernel
theorem dX8_isBlank_9 : decode cX8_isBlank 9 = .ok (.if_icmp .ne 7, 3) := by decide +kernel
theorem dX8_isBlank_12 : decode cX8_isBlank 12 = .ok (.iconst 1, 1) := by decide +kernel
theorem dX8_isBlank_13 : decode cX8_isBlank 13 = .ok (.goto 4, 3) := by decide +kernel
theorem dX8_isBlank_16 : decode cX8_isBlank 16 = .ok (.iconst 0, 1) := by decide +kernel
theorem dX8_isBlank_17 : decode cX8_isBlank 17 = .ok (.ireturn, 1) := by decide +kernel
theorem dX8_isLetter_0 : decode cX8_isLetter 0 = .ok (.iload_n 0, 1) := by decide +kernel
theorem dX8_isLetter_1 : decode cX8_isLetter 1 = .ok (.bipush 97, 2) := by decide +kernel
theorem dX8_isLetter_3 : decode cX8_isLetter 3 = .ok (.if_icmp .lt 13, 3) := by decide +kernel
theorem dX8_isLetter_6 : decode cX8_isLetter 6 = .ok (.iload_n 0, 1) := by decide +kernel
theorem dX8_isLetter_7 : decode cX8_isLetter 7 = .ok (.bipush 122, 2) := by decide +kernel
theorem dX8_isLetter_9 : decode cX8_isLetter 9 = .ok (.if_icmp .gt 7, 3) := by decide +kernel
theorem dX8_isLetter_12 : decode cX8_isLetter 12 = .ok (.iconst 1, 1) := by decide +kernel
theorem dX8_isLetter_13 : decode cX8_isLetter 13 = .ok (.goto 4, 3) := by decide +kernel
theorem dX8_isLetter_16 : decode cX8_isLetter 16 = .ok (.iconst 0, 1) := by decide +kernel
theorem dX8_isLetter_17 : decode cX8_isLetter 17 = .ok (.ireturn, 1) := by decide +kernel
theorem dX8_isDigit_0 : decode cX8_isDigit 0 = .ok (.iload_n 0, 1) := by decide +kernel
theorem dX8_isDigit_1 : decode cX8_isDigit 1 = .ok (.bipush 48, 2) := by decide +kernel
theorem dX8_isDigit_3 : decode cX8_isDigit 3 = .ok (.if_icmp .lt 13, 3) := by decide +kernel
theorem dX8_isDigit_6 : decode cX8_isDigit 6 = .ok (.iload_n 0, 1) := by decide +kernel
theorem dX8_isDigit_7 : decode cX8_isDigit 7 = .ok (.bipush 57, 2) := by decide +kernel
theorem dX8_isDigit_9 : decode cX8_isDigit 9 = .ok (.if_icmp .gt 7, 3) := by decide +kernel
theorem dX8_isDigit_12 : decode cX8_isDigit 12 = .ok (.iconst 1, 1) := by decide +kernel
theorem dX8_isDigit_13 : decode cX8_isDigit 13 = .ok (.goto 4, 3) := by decide +kernel
theorem dX8_isDigit_16 : decode cX8_isDigit 16 = .ok (.iconst 0, 1) := by decide +kernel
theorem dX8_isDigit_17 : decode cX8_isDigit 17 = .ok (.ireturn, 1) := by decide +kernel
theorem dX9_init_0 : decode cX9_init 0 = .ok (.aload_n 0, 1) := by decide +kernel
theorem dX9_init_1 : decode cX9_init 1 = .ok (.invokespecial 3, 3) := by decide +kernel
theorem dX9_init_4 : decode cX9_init 4 = .ok (.aload_n 0, 1) := by decide +kernel
theorem dX9_init_5 : decode cX9_init 5 = .ok (.iconst 4, 1) := by decide +kernel
theorem dX9_init_6 : decode cX9_init 6 = .ok (.newarray .long, 2) := by decide +kernel
theorem dX9_init_8 : decode cX9_init 8 = .ok (.putfield 9, 3) := by decide +kernel
theorem dX9_init_11 : decode cX9_init 11 = .ok (.aload_n 0, 1) := by decide +kernel
theorem dX9_init_12 : decode cX9_init 12 = .ok (.bipush 8, 2) := by decide +kernel
theorem dX9_init_14 : decode cX9_init 14 = .ok (.newarray .long, 2) := by decide +kernel
theorem dX9_init_16 : decode cX9_init 16 = .ok (.putfield 15, 3) := by decide +kernel
theorem dX9_init_19 : decode cX9_init 19 = .ok (.aload_n 0, 1) := by decide +kernel
theorem dX9_init_20 : decode cX9_init 20 = .ok (.bipush 8, 2) := by decide +kernel
theorem dX9_init_22 : decode cX9_init 22 = .ok (.newarray .int, 2) := by decide +kernel
theorem dX9_init_24 : decode cX9_init 24 = .ok (.putfield 18, 3) := by decide +kernel
theorem dX9_init_27 : decode cX9_init 27 = .ok (.aload_n 0, 1) := by decide +kernel
theorem dX9_init_28 : decode cX9_init 28 = .ok (.bipush 8, 2) := by decide +kernel
theorem dX9_init_30 : decode cX9_init 30 = .ok (.newarray .int, 2) := by decide +kernel
theorem dX9_init_32 : decode cX9_init 32 = .ok (.putfield 22, 3) := by decide +kernel
theorem dX9_init_35 : decode cX9_init 35 = .ok (.aload_n 0, 1) := by decide +kernel
theorem dX9_init_36 : decode cX9_init 36 = .ok (.bipush 8, 2) := by decide +kernel
theorem dX9_init_38 : decode cX9_init 38 = .ok (.newarray .int, 2) := by decide +kernel
theorem dX9_init_40 : decode cX9_init 40 = .ok (.putfield 25, 3) := by decide +kernel
theorem dX9_init_43 : decode cX9_init 43 = .ok (.aload_n 0, 1) := by decide +kernel
theorem dX9_init_44 : decode cX9_init 44 = .ok (.iconst 5, 1) := by decide +kernel
theorem dX9_init_45 : decode cX9_init 45 = .ok (.newarray .int, 2) := by decide +kernel
theorem dX9_init_47 : decode cX9_init 47 = .ok (.putfield 28, 3) := by decide +kernel
theorem dX9_init_50 : decode cX9_init 50 = .ok (.aload_n 0, 1) := by decide +kernel
theorem dX9_init_51 : decode cX9_init 51 = .ok (.iconst 5, 1) := by decide +kernel
theorem dX9_init_52 : decode cX9_init 52 = .ok (.newarray .int, 2) := by decide +kernel
theorem dX9_init_54 : decode cX9_init 54 = .ok (.putfield 31, 3) := by decide +kernel
theorem dX9_init_57 : decode cX9_init 57 = .ok (.aload_n 0, 1) := by decide +kernel
theorem dX9_init_58 : decode cX9_init 58 = .ok (.iconst 5, 1) := by decide +kernel
theorem dX9_init_59 : decode cX9_init 59 = .ok (.newarray .int, 2) := by decide +kernel
theorem dX9_init_61 : decode cX9_init 61 = .ok (.putfield 34, 3) := by decide +kernel
theorem dX9_init_64 : decode cX9_init 64 = .ok (.aload_n 0, 1) := by decide +kernel
theorem dX9_init_65 : decode cX9_init 65 = .ok (.iconst 5, 1) := by decide +kernel
theorem dX9_init_66 : decode cX9_init 66 = .ok (.newarray .int, 2) := by decide +kernel
theorem dX9_init_68 : decode cX9_init 68 = .ok (.putfield 37, 3) := by decide +kernel
theorem dX9_init_71 : decode cX9_init 71 = .ok (.aload_n 0, 1) := by decide +kernel
theorem dX9_init_72 : decode cX9_init 72 = .ok (.new 40, 3) := by decide +kernel
theorem dX9_init_75 : decode cX9_init 75 = .ok (.dup, 1) := by decide +kernel
theorem dX9_init_76 : decode cX9_init 76 = .ok (.invokespecial 42, 3) := by decide +kernel
theorem dX9_init_79 : decode cX9_init 79 = .ok (.putfield 43, 3) := by decide +kernel
theorem dX9_init_82 : decode cX9_init 82 = .ok (.aload_n 0, 1) := by decide +kernel
theorem dX9_init_83 : decode cX9_init 83 = .ok (.new 47, 3) := by decide +kernel
theorem dX9_init_86 : decode cX9_init 86 = .ok (.dup, 1) := by decide +kernel
theorem dX9_init_87 : decode cX9_init 87 = .ok (.invokespecial 49, 3) := by decide +kernel
theorem dX9_init_90 : decode cX9_init 90 = .ok (.putfield 50, 3) := by decide +kernel
theorem dX9_init_93 : decode cX9_init 93 = .ok (.aload_n 0, 1) := by decide +kernel
theorem dX9_init_94 : decode cX9_init 94 = .ok (.iconst 4, 1) := by decide +kernel
theorem dX9_init_95 : decode cX9_init 95 = .ok (.putfield 54, 3) := by decide +kernel
theorem dX9_init_98 : decode cX9_init 98 = .ok (.aload_n 0, 1) := by decide +kernel
theorem dX9_init_99 : decode cX9_init 99 = .ok (.iconst 2, 1) := by decide +kernel
theorem dX9_init_100 : decode cX9_init 100 = .ok (.putfield 58, 3) := by decide +kernel
theorem dX9_init_103 : decode cX9_init 103 = .ok (.return_, 1) := by decide +kernel
theorem dX9_clear_0 : decode cX9_clear 0 = .ok (.aload_n 0, 1) := by decide +kernel
theorem dX9_clear_1 : decode cX9_clear 1 = .ok (.iconst 0, 1) := by decide +kernel
theorem dX9_clear_2 : decode cX9_clear 2 = .ok (.putfield 61, 3) := by decide +kernel
theorem dX9_clear_5 : decode cX9_clear 5 = .ok (.aload_n 0, 1) := by decide +kernel
theorem dX9_clear_6 : decode cX9_clear 6 = .ok (.iconst 0, 1) := by decide +kernel
theorem dX9_clear_7 : decode cX9_clear 7 = .ok (.putfield 64, 3) := by decide +kernel
theorem dX9_clear_10 : decode cX9_clear 10 = .ok (.aload_n 0, 1) := by decide +kernel
theorem dX9_clear_11 : decode cX9_clear 11 = .ok (.iconst 0, 1) := by decide +kernel
theorem dX9_clear_12 : decode cX9_clear 12 = .ok (.putfield 67, 3) := by decide +kernel
theorem dX9_clear_15 : decode cX9_clear 15 = .ok (.aload_n 0, 1) := by decide +kernel
theorem dX9_clear_16 : decode cX9_clear 16 = .ok (.iconst 0, 1) := by decide +kernel
theorem dX9_clear_17 : decode cX9_clear 17 = .ok (.putfield 70, 3) := by decide +kernel
theorem dX9_clear_20 : decode cX9_clear 20 = .ok (.aload_n 0, 1) := by decide +kernel
theorem dX9_clear_21 : decode cX9_clear 21 = .ok (.iconst 4, 1) := by decide +kernel
theorem dX9_clear_22 : decode cX9_clear 22 = .ok (.putfield 54, 3) := by decide +kernel
theorem dX9_clear_25 : decode cX9_clear 25 = .ok (.aload_n 0, 1) := by decide +kernel
theorem dX9_clear_26 : decode cX9_clear 26 = .ok (.iconst 2, 1) := by decide +kernel
theorem dX9_clear_27 : decode cX9_clear 27 = .ok (.putfield 58, 3) := by decide +kernel
theorem dX9_clear_30 : decode cX9_clear 30 = .ok (.aload_n 0, 1) := by decide +kernel
theorem dX9_clear_31 : decode cX9_clear 31 = .ok (.iconst 0, 1) := by decide +kernel
theorem dX9_clear_32 : decode cX9_clear 32 = .ok (.putfield 73, 3) := by decide +kernel
theorem dX9_clear_35 : decode cX9_clear 35 = .ok (.aload_n 0, 1) := by decide +kernel
theorem dX9_clear_36 : decode cX9_clear 36 = .ok (.getfield 50, 3) := by decide +kernel
theorem dX9_clear_39 : decode cX9_clear 39 = .ok (.invokevirtual 76, 3) := by decide +kernel
theorem dX9_clear_42 : decode cX9_clear 42 = .ok (.aload_n 0, 1) := by decide +kernel
theorem dX9_clear_43 : decode cX9_clear 43 = .ok (.getfield 43, 3) := by decide +kernel
theorem dX9_clear_46 : decode cX9_clear 46 = .ok (.invokevirtual 79, 3) := by decide +kernel
theorem dX9_clear_49 : decode cX9_clear 49 = .ok (.aload_n 0, 1) := by decide +kernel
theorem dX9_clear_50 : decode cX9_clear 50 = .ok (.getfield 22, 3) := by decide +kernel
theorem dX9_clear_53 : decode cX9_clear 53 = .ok (.iconst 0, 1) := by decide +kernel
theorem dX9_clear_54 : decode cX9_clear 54 = .ok (.invokestatic 80, 3) := by decide +kernel
theorem dX9_clear_57 : decode cX9_clear 57 = .ok (.aload_n 0, 1) := by decide +kernel
theorem dX9_clear_58 : decode cX9_clear 58 = .ok (.getfield 25, 3) := by decide +kernel
theorem dX9_clear_61 : decode cX9_clear 61 = .ok (.iconst 0, 1) := by decide +kernel
theorem dX9_clear_62 : decode cX9_clear 62 = .ok (.invokestatic 80, 3) := by decide +kernel
theorem dX9_clear_65 : decode cX9_clear 65 = .ok (.return_, 1) := by decide +kernel
theorem dX9_hasChurch_0 : decode cX9_hasChurch 0 = .ok (.iload_n 1, 1) := by decide +kernel
theorem dX9_hasChurch_1 : decode cX9_hasChurch 1 = .ok (.ifCond .lt 15, 3) := by decide +kernel
theorem dX9_hasChurch_4 : decode cX9_hasChurch 4 = .ok (.iload_n 1, 1) := by decide +kernel
theorem dX9_hasChurch_5 : decode cX9_hasChurch 5 = .ok (.aload_n 0, 1) := by decide +kernel
theorem dX9_hasChurch_6 : decode cX9_hasChurch 6 = .ok (.getfield 61, 3) := by decide +kernel
theorem dX9_hasChurch_9 : decode cX9_hasChurch 9 = .ok (.if_icmp .ge 7, 3) := by decide +kernel
theorem dX9_hasChurch_12 : decode cX9_hasChurch 12 = .ok (.iconst 1, 1) := by decide +kernel
theorem dX9_hasChurch_13 : decode cX9_hasChurch 13 = .ok (.goto 4, 3) := by decide +kernel
theorem dX9_hasChurch_16 : decode cX9_hasChurch 16 = .ok (.iconst 0, 1) := by decide +kernel
theorem dX9_hasChurch_17 : decode cX9_hasChurch 17 = .ok (.ireturn, 1) := by decide +kernel
theorem dX9_hasPerson_0 : decode cX9_hasPerson 0 = .ok (.iload_n 1, 1) := by decide +kernel
theorem dX9_hasPerson_1 : decode cX9_hasPerson 1 = .ok (.ifCond .lt 15, 3) := by decide +kernel
theorem dX9_hasPerson_4 : decode cX9_hasPerson 4 = .ok (.iload_n 1, 1) := by decide +kernel
theorem dX9_hasPerson_5 : decode cX9_hasPerson 5 = .ok (.aload_n 0, 1) := by decide +kernel
theorem dX9_hasPerson_6 : decode cX9_hasPerson 6 = .ok (.getfield 64, 3) := by decide +kernel
theorem dX9_hasPerson_9 : decode cX9_hasPerson 9 = .ok (.if_icmp .ge 7, 3) := by decide +kernel
theorem dX9_hasPerson_12 : decode cX9_hasPerson 12 = .ok (.iconst 1, 1) := by decide +kernel
theorem dX9_hasPerson_13 : decode cX9_hasPerson 13 = .ok (.goto 4, 3) := by decide +kernel
theorem dX9_hasPerson_16 : decode cX9_hasPerson 16 = .ok (.iconst 0, 1) := by decide +kernel
theorem dX9_hasPerson_17 : decode cX9_hasPerson 17 = .ok (.ireturn, 1) := by decide +kernel
theorem dX9_hasPair_0 : decode cX9_hasPair 0 = .ok (.iload_n 1, 1) := by decide +kernel
theorem dX9_hasPair_1 : decode cX9_hasPair 1 = .ok (.ifCond .lt 15, 3) := by decide +kernel
theorem dX9_hasPair_4 : decode cX9_hasPair 4 = .ok (.iload_n 1, 1) := by decide +kernel
theorem dX9_hasPair_5 : decode cX9_hasPair 5 = .ok (.aload_n 0, 1) := by decide +kernel
theorem dX9_hasPair_6 : decode cX9_hasPair 6 = .ok (.getfield 67, 3) := by decide +kernel
theorem dX9_hasPair_9 : decode cX9_hasPair 9 = .ok (.if_icmp .ge 7, 3) := by decide +kernel
theorem dX9_hasPair_12 : decode cX9_hasPair 12 = .ok (.iconst 1, 1) := by decide +kernel
theorem dX9_hasPair_13 : decode cX9_hasPair 13 = .ok (.goto 4, 3) := by decide +kernel
theorem dX9_hasPair_16 : decode cX9_hasPair 16 = .ok (.iconst 0, 1) := by decide +kernel
theorem dX9_hasPair_17 : decode cX9_hasPair 17 = .ok (.ireturn, 1) := by decide +kernel
theorem dX9_findChurch_0 : decode cX9_findChurch 0 = .ok (.aload_n 0, 1) := by decide +kernel
theorem dX9_findChurch_1 : decode cX9_findChurch 1 = .ok (.getfield 9, 3) := by decide +kernel
theorem dX9_findChurch_4 : decode cX9_findChurch 4 = .ok (.aload_n 0, 1) := by decide +kernel
theorem dX9_findChurch_5 : decode cX9_findChurch 5 = .ok (.getfield 61, 3) := by decide +kernel
theorem dX9_findChurch_8 : decode cX9_findChurch 8 = .ok (.lload_n 1, 1) := by decide +kernel
theorem dX9_findChurch_9 : decode cX9_findChurch 9 = .ok (.invokestatic 86, 3) := by decide +kernel
theorem dX9_findChurch_12 : decode cX9_findChurch 12 = .ok (.ireturn, 1) := by decide +kernel
theorem dX9_findPerson_0 : decode cX9_findPerson 0 = .ok (.aload_n 0, 1) := by decide +kernel
theorem dX9_findPerson_1 : decode cX9_findPerson 1 = .ok (.getfield 15, 3) := by decide +kernel
theorem dX9_findPerson_4 : decode cX9_findPerson 4 = .ok (.aload_n 0, 1) := by decide +kernel
theorem dX9_findPerson_5 : decode cX9_findPerson 5 = .ok (.getfield 64, 3) := by decide +kernel
theorem dX9_findPerson_8 : decode cX9_findPerson 8 = .ok (.lload_n 1, 1) := by decide +kernel
theorem dX9_findPerson_9 : decode cX9_findPerson 9 = .ok (.invokestatic 86, 3) := by decide +kernel
theorem dX9_findPerson_12 : decode cX9_findPerson 12 = .ok (.ireturn, 1) := by decide +kernel
theorem dX9_pairedWith_0 : decode cX9_pairedWith 0 = .ok (.iconst 0, 1) := by decide +kernel
theorem dX9_pairedWith_1 : decode cX9_pairedWith 1 = .ok (.istore_n 2, 1) := by decide +kernel
theorem dX9_pairedWith_2 : decode cX9_pairedWith 2 = .ok (.iconst 0, 1) := by decide +kernel
theorem dX9_pairedWith_3 : decode cX9_pairedWith 3 = .ok (.istore_n 3, 1) := by decide +kernel
theorem dX9_pairedWith_4 : decode cX9_pairedWith 4 = .ok (.iload_n 3, 1) := by decide +kernel
theorem dX9_pairedWith_5 : decode cX9_pairedWith 5 = .ok (.aload_n 0, 1) := by decide +kernel
theorem dX9_pairedWith_6 : decode cX9_pairedWith 6 = .ok (.getfield 67, 3) := by decide +kernel
theorem dX9_pairedWith_9 : decode cX9_pairedWith 9 = .ok (.if_icmp .ge 30, 3) := by decide +kernel
theorem dX9_pairedWith_12 : decode cX9_pairedWith 12 = .ok (.aload_n 0, 1) := by decide +kernel
theorem dX9_pairedWith_13 : decode cX9_pairedWith 13 = .ok (.iload_n 3, 1) := by decide +kernel
theorem dX9_pairedWith_14 : decode cX9_pairedWith 14 = .ok (.invokevirtual 90, 3) := by decide +kernel
theorem dX9_pairedWith_17 : decode cX9_pairedWith 17 = .ok (.iload_n 1, 1) := by decide +kernel
theorem dX9_pairedWith_18 : decode cX9_pairedWith 18 = .ok (.ishr, 1) := by decide +kernel
theorem dX9_pairedWith_19 : decode cX9_pairedWith 19 = .ok (.iconst 1, 1) := by decide +kernel
theorem dX9_pairedWith_20 : decode cX9_pairedWith 20 = .ok (.iand, 1) := by decide +kernel
theorem dX9_pairedWith_21 : decode cX9_pairedWith 21 = .ok (.iconst 1, 1) := by decide +kernel
theorem dX9_pairedWith_22 : decode cX9_pairedWith 22 = .ok (.if_icmp .ne 11, 3) := by decide +kernel
theorem dX9_pairedWith_25 : decode cX9_pairedWith 25 = .ok (.iload_n 2, 1) := by decide +kernel
theorem dX9_pairedWith_26 : decode cX9_pairedWith 26 = .ok (.aload_n 0, 1) := by decide +kernel
theorem dX9_pairedWith_27 : decode cX9_pairedWith 27 = .ok (.iload_n 3, 1) := by decide +kernel
theorem dX9_pairedWith_28 : decode cX9_pairedWith 28 = .ok (.invokevirtual 90, 3) := by decide +kernel
theorem dX9_pairedWith_31 : decode cX9_pairedWith 31 = .ok (.ior, 1) := by decide +kernel
theorem dX9_pairedWith_32 : decode cX9_pairedWith 32 = .ok (.istore_n 2, 1) := by decide +kernel
theorem dX9_pairedWith_33 : decode cX9_pairedWith 33 = .ok (.iinc 3 1, 3) := by decide +kernel
theorem dX9_pairedWith_36 : decode cX9_pairedWith 36 = .ok (.goto (-32), 3) := by decide +kernel
theorem dX9_pairedWith_39 : decode cX9_pairedWith 39 = .ok (.iload_n 2, 1) := by decide +kernel
theorem dX9_pairedWith_40 : decode cX9_pairedWith 40 = .ok (.ireturn, 1) := by decide +kernel
theorem dX9_pairMask_0 : decode cX9_pairMask 0 = .ok (.iconst 1, 1) := by decide +kernel
theorem dX9_pairMask_1 : decode cX9_pairMask 1 = .ok (.aload_n 0, 1) := by decide +kernel
theorem dX9_pairMask_2 : decode cX9_pairMask 2 = .ok (.getfield 28, 3) := by decide +kernel
theorem dX9_pairMask_5 : decode cX9_pairMask 5 = .ok (.iload_n 1, 1) := by decide +kernel
theorem dX9_pairMask_6 : decode cX9_pairMask 6 = .ok (.iaload, 1) := by decide +kernel
theorem dX9_pairMask_7 : decode cX9_pairMask 7 = .ok (.ishl, 1) := by decide +kernel
theorem dX9_pairMask_8 : decode cX9_pairMask 8 = .ok (.iconst 1, 1) := by decide +kernel
theorem dX9_pairMask_9 : decode cX9_pairMask 9 = .ok (.aload_n 0, 1) := by decide +kernel
theorem dX9_pairMask_10 : decode cX9_pairMask 10 = .ok (.getfield 31, 3) := by decide +kernel
theorem dX9_pairMask_13 : decode cX9_pairMask 13 = .ok (.iload_n 1, 1) := by decide +kernel
theorem dX9_pairMask_14 : decode cX9_pairMask 14 = .ok (.iaload, 1) := by decide +kernel
theorem dX9_pairMask_15 : decode cX9_pairMask 15 = .ok (.ishl, 1) := by decide +kernel
theorem dX9_pairMask_16 : decode cX9_pairMask 16 = .ok (.ior, 1) := by decide +kernel
theorem dX9_pairMask_17 : decode cX9_pairMask 17 = .ok (.ireturn, 1) := by decide +kernel
theorem dX9_addChurch_0 : decode cX9_addChurch 0 = .ok (.aload_n 0, 1) := by decide +kernel
theorem dX9_addChurch_1 : decode cX9_addChurch 1 = .ok (.getfield 61, 3) := by decide +kernel
theorem dX9_addChurch_4 : decode cX9_addChurch 4 = .ok (.iconst 4, 1) := by decide +kernel
theorem dX9_addChurch_5 : decode cX9_addChurch 5 = .ok (.if_icmp .ge 23, 3) := by decide +kernel
theorem dX9_addChurch_8 : decode cX9_addChurch 8 = .ok (.aload_n 0, 1) := by decide +kernel
theorem dX9_addChurch_9 : decode cX9_addChurch 9 = .ok (.getfield 9, 3) := by decide +kernel
theorem dX9_addChurch_12 : decode cX9_addChurch 12 = .ok (.aload_n 0, 1) := by decide +kernel
theorem dX9_addChurch_13 : decode cX9_addChurch 13 = .ok (.getfield 61, 3) := by decide +kernel
theorem dX9_addChurch_16 : decode cX9_addChurch 16 = .ok (.lload_n 1, 1) := by decide +kernel
theorem dX9_addChurch_17 : decode cX9_addChurch 17 = .ok (.lastore, 1) := by decide +kernel
theorem dX9_addChurch_18 : decode cX9_addChurch 18 = .ok (.aload_n 0, 1) := by decide +kernel
theorem dX9_addChurch_19 : decode cX9_addChurch 19 = .ok (.dup, 1) := by decide +kernel
theorem dX9_addChurch_20 : decode cX9_addChurch 20 = .ok (.getfield 61, 3) := by decide +kernel
theorem dX9_addChurch_23 : decode cX9_addChurch 23 = .ok (.iconst 1, 1) := by decide +kernel
theorem dX9_addChurch_24 : decode cX9_addChurch 24 = .ok (.iadd, 1) := by decide +kernel
theorem dX9_addChurch_25 : decode cX9_addChurch 25 = .ok (.putfield 61, 3) := by decide +kernel
theorem dX9_addChurch_28 : decode cX9_addChurch 28 = .ok (.return_, 1) := by decide +kernel
theorem dX9_describe_0 : decode cX9_describe 0 = .ok (.aload_n 0, 1) := by decide +kernel
theorem dX9_describe_1 : decode cX9_describe 1 = .ok (.getfield 64, 3) := by decide +kernel
theorem dX9_describe_4 : decode cX9_describe 4 = .ok (.bipush 8, 2) := by decide +kernel
theorem dX9_describe_6 : decode cX9_describe 6 = .ok (.if_icmp .ge 23, 3) := by decide +kernel
theorem dX9_describe_9 : decode cX9_describe 9 = .ok (.aload_n 0, 1) := by decide +kernel
theorem dX9_describe_10 : decode cX9_describe 10 = .ok (.getfield 15, 3) := by decide +kernel
theorem dX9_describe_13 : decode cX9_describe 13 = .ok (.aload_n 0, 1) := by decide +kernel
theorem dX9_describe_14 : decode cX9_describe 14 = .ok (.getfield 64, 3) := by decide +kernel
theorem dX9_describe_17 : decode cX9_describe 17 = .ok (.lload_n 1, 1) := by decide +kernel
theorem dX9_describe_18 : decode cX9_describe 18 = .ok (.lastore, 1) := by decide +kernel
theorem dX9_describe_19 : decode cX9_describe 19 = .ok (.aload_n 0, 1) := by decide +kernel
theorem dX9_describe_20 : decode cX9_describe 20 = .ok (.getfield 18, 3) := by decide +kernel
theorem dX9_describe_23 : decode cX9_describe 23 = .ok (.aload_n 0, 1) := by decide +kernel
theorem dX9_describe_24 : decode cX9_describe 24 = .ok (.getfield 64, 3) := by decide +kernel
theorem dX9_describe_27 : decode cX9_describe 27 = .ok (.iload_n 3, 1) := by decide +kernel
theorem dX9_describe_28 : decode cX9_describe 28 = .ok (.iastore, 1) := by decide +kernel
theorem dX9_describe_29 : decode cX9_describe 29 = .ok (.return_, 1) := by decide +kernel
theorem dX9_addPair_0 : decode cX9_addPair 0 = .ok (.aload_n 0, 1) := by decide +kernel
theorem dX9_addPair_1 : decode cX9_addPair 1 = .ok (.getfield 67, 3) := by decide +kernel
theorem dX9_addPair_4 : decode cX9_addPair 4 = .ok (.iconst 5, 1) := by decide +kernel
theorem dX9_addPair_5 : decode cX9_addPair 5 = .ok (.if_icmp .ge 54, 3) := by decide +kernel
theorem dX9_addPair_8 : decode cX9_addPair 8 = .ok (.aload_n 0, 1) := by decide +kernel
theorem dX9_addPair_9 : decode cX9_addPair 9 = .ok (.getfield 28, 3) := by decide +kernel
theorem dX9_addPair_12 : decode cX9_addPair 12 = .ok (.aload_n 0, 1) := by decide +kernel
theorem dX9_addPair_13 : decode cX9_addPair 13 = .ok (.getfield 67, 3) := by decide +kernel
theorem dX9_addPair_16 : decode cX9_addPair 16 = .ok (.iload_n 1, 1) := by decide +kernel
theorem dX9_addPair_17 : decode cX9_addPair 17 = .ok (.iastore, 1) := by decide +kernel
theorem dX9_addPair_18 : decode cX9_addPair 18 = .ok (.aload_n 0, 1) := by decide +kernel
theorem dX9_addPair_19 : decode cX9_addPair 19 = .ok (.getfield 31, 3) := by decide +kernel
theorem dX9_addPair_22 : decode cX9_addPair 22 = .ok (.aload_n 0, 1) := by decide +kernel
theorem dX9_addPair_23 : decode cX9_addPair 23 = .ok (.getfield 67, 3) := by decide +kernel
theorem dX9_addPair_26 : decode cX9_addPair 26 = .ok (.iload_n 2, 1) := by decide +kernel
theorem dX9_addPair_27 : decode cX9_addPair 27 = .ok (.iastore, 1) := by decide +kernel
theorem dX9_addPair_28 : decode cX9_addPair 28 = .ok (.aload_n 0, 1) := by decide +kernel
theorem dX9_addPair_29 : decode cX9_addPair 29 = .ok (.getfield 34, 3) := by decide +kernel
theorem dX9_addPair_32 : decode cX9_addPair 32 = .ok (.aload_n 0, 1) := by decide +kernel
theorem dX9_addPair_33 : decode cX9_addPair 33 = .ok (.getfield 67, 3) := by decide +kernel
theorem dX9_addPair_36 : decode cX9_addPair 36 = .ok (.iload_n 3, 1) := by decide +kernel
theorem dX9_addPair_37 : decode cX9_addPair 37 = .ok (.iastore, 1) := by decide +kernel
theorem dX9_addPair_38 : decode cX9_addPair 38 = .ok (.aload_n 0, 1) := by decide +kernel
theorem dX9_addPair_39 : decode cX9_addPair 39 = .ok (.getfield 37, 3) := by decide +kernel
theorem dX9_addPair_42 : decode cX9_addPair 42 = .ok (.aload_n 0, 1) := by decide +kernel
theorem dX9_addPair_43 : decode cX9_addPair 43 = .ok (.getfield 67, 3) := by decide +kernel
theorem dX9_addPair_46 : decode cX9_addPair 46 = .ok (.iload 4, 2) := by decide +kernel
theorem dX9_addPair_48 : decode cX9_addPair 48 = .ok (.iastore, 1) := by decide +kernel
theorem dX9_addPair_49 : decode cX9_addPair 49 = .ok (.aload_n 0, 1) := by decide +kernel
theorem dX9_addPair_50 : decode cX9_addPair 50 = .ok (.dup, 1) := by decide +kernel
theorem dX9_addPair_51 : decode cX9_addPair 51 = .ok (.getfield 67, 3) := by decide +kernel
theorem dX9_addPair_54 : decode cX9_addPair 54 = .ok (.iconst 1, 1) := by decide +kernel
theorem dX9_addPair_55 : decode cX9_addPair 55 = .ok (.iadd, 1) := by decide +kernel
theorem dX9_addPair_56 : decode cX9_addPair 56 = .ok (.putfield 67, 3) := by decide +kernel
theorem dX9_addPair_59 : decode cX9_addPair 59 = .ok (.return_, 1) := by decide +kernel
theorem dX9_set_0 : decode cX9_set 0 = .ok (.iload_n 1, 1) := by decide +kernel
theorem dX9_set_1 : decode cX9_set 1 = .ok (.lookupswitch 43 #[(12, 27), (13, 35)], 27) := by decide +kernel
theorem dX9_set_28 : decode cX9_set 28 = .ok (.aload_n 0, 1) := by decide +kernel
theorem dX9_set_29 : decode cX9_set 29 = .ok (.iload_n 2, 1) := by decide +kernel
theorem dX9_set_30 : decode cX9_set 30 = .ok (.putfield 54, 3) := by decide +kernel
theorem dX9_set_33 : decode cX9_set 33 = .ok (.goto 16, 3) := by decide +kernel
theorem dX9_set_36 : decode cX9_set 36 = .ok (.aload_n 0, 1) := by decide +kernel
theorem dX9_set_37 : decode cX9_set 37 = .ok (.iload_n 2, 1) := by decide +kernel
theorem dX9_set_38 : decode cX9_set 38 = .ok (.putfield 58, 3) := by decide +kernel
theorem dX9_set_41 : decode cX9_set 41 = .ok (.goto 8, 3) := by decide +kernel
theorem dX9_set_44 : decode cX9_set 44 = .ok (.aload_n 0, 1) := by decide +kernel
theorem dX9_set_45 : decode cX9_set 45 = .ok (.iload_n 2, 1) := by decide +kernel
theorem dX9_set_46 : decode cX9_set 46 = .ok (.putfield 73, 3) := by decide +kernel
theorem dX9_set_49 : decode cX9_set 49 = .ok (.return_, 1) := by decide +kernel
theorem dX9_isAway_0 : decode cX9_isAway 0 = .ok (.aload_n 0, 1) := by decide +kernel
theorem dX9_isAway_1 : decode cX9_isAway 1 = .ok (.getfield 22, 3) := by decide +kernel
theorem dX9_isAway_4 : decode cX9_isAway 4 = .ok (.iload_n 1, 1) := by decide +kernel
theorem dX9_isAway_5 : decode cX9_isAway 5 = .ok (.iaload, 1) := by decide +kernel
theorem dX9_isAway_6 : decode cX9_isAway 6 = .ok (.ifCond .le 17, 3) := by decide +kernel
theorem dX9_isAway_9 : decode cX9_isAway 9 = .ok (.iload_n 2, 1) := by decide +kernel
theorem dX9_isAway_10 : decode cX9_isAway 10 = .ok (.aload_n 0, 1) := by decide +kernel
theorem dX9_isAway_11 : decode cX9_isAway 11 = .ok (.getfield 22, 3) := by decide +kernel
theorem dX9_isAway_14 : decode cX9_isAway 14 = .ok (.iload_n 1, 1) := by decide +kernel
theorem dX9_isAway_15 : decode cX9_isAway 15 = .ok (.iaload, 1) := by decide +kernel
theorem dX9_isAway_16 : decode cX9_isAway 16 = .ok (.if_icmp .lt 7, 3) := by decide +kernel
theorem dX9_isAway_19 : decode cX9_isAway 19 = .ok (.iconst 1, 1) := by decide +kernel
theorem dX9_isAway_20 : decode cX9_isAway 20 = .ok (.goto 4, 3) := by decide +kernel
theorem dX9_isAway_23 : decode cX9_isAway 23 = .ok (.iconst 0, 1) := by decide +kernel
theorem dX9_isAway_24 : decode cX9_isAway 24 = .ok (.ireturn, 1) := by decide +kernel
theorem dX9_isPairAway_0 : decode cX9_isPairAway 0 = .ok (.aload_n 0, 1) := by decide +kernel
theorem dX9_isPairAway_1 : decode cX9_isPairAway 1 = .ok (.aload_n 0, 1) := by decide +kernel
theorem dX9_isPairAway_2 : decode cX9_isPairAway 2 = .ok (.getfield 28, 3) := by decide +kernel
theorem dX9_isPairAway_5 : decode cX9_isPairAway 5 = .ok (.iload_n 1, 1) := by decide +kernel
theorem dX9_isPairAway_6 : decode cX9_isPairAway 6 = .ok (.iaload, 1) := by decide +kernel
theorem dX9_isPairAway_7 : decode cX9_isPairAway 7 = .ok (.iload_n 2, 1) := by decide +kernel
theorem dX9_isPairAway_8 : decode cX9_isPairAway 8 = .ok (.invokevirtual 94, 3) := by decide +kernel
theorem dX9_isPairAway_11 : decode cX9_isPairAway 11 = .ok (.ifCond .ne 17, 3) := by decide +kernel
theorem dX9_isPairAway_14 : decode cX9_isPairAway 14 = .ok (.aload_n 0, 1) := by decide +kernel
theorem dX9_isPairAway_15 : decode cX9_isPairAway 15 = .ok (.aload_n 0, 1) := by decide +kernel
theorem dX9_isPairAway_16 : decode cX9_isPairAway 16 = .ok (.getfield 31, 3) := by decide +kernel
theorem dX9_isPairAway_19 : decode cX9_isPairAway 19 = .ok (.iload_n 1, 1) := by decide +kernel
theorem dX9_isPairAway_20 : decode cX9_isPairAway 20 = .ok (.iaload, 1) := by decide +kernel
theorem dX9_isPairAway_21 : decode cX9_isPairAway 21 = .ok (.iload_n 2, 1) := by decide +kernel
theorem dX9_isPairAway_22 : decode cX9_isPairAway 22 = .ok (.invokevirtual 94, 3) := by decide +kernel
theorem dX9_isPairAway_25 : decode cX9_isPairAway 25 = .ok (.ifCond .eq 7, 3) := by decide +kernel
theorem dX9_isPairAway_28 : decode cX9_isPairAway 28 = .ok (.iconst 1, 1) := by decide +kernel
theorem dX9_isPairAway_29 : decode cX9_isPairAway 29 = .ok (.goto 4, 3) := by decide +kernel
theorem dX9_isPairAway_32 : decode cX9_isPairAway 32 = .ok (.iconst 0, 1) := by decide +kernel
theorem dX9_isPairAway_33 : decode cX9_isPairAway 33 = .ok (.ireturn, 1) := by decide +kernel
theorem dX9_find_0 : decode cX9_find 0 = .ok (.iconst 0, 1) := by decide +kernel
theorem dX9_find_1 : decode cX9_find 1 = .ok (.istore 4, 2) := by decide +kernel
theorem dX9_find_3 : decode cX9_find 3 = .ok (.iload 4, 2) := by decide +kernel
theorem dX9_find_5 : decode cX9_find 5 = .ok (.iload_n 1, 1) := by decide +kernel
theorem dX9_find_6 : decode cX9_find 6 = .ok (.if_icmp .ge 28, 3) := by decide +kernel
theorem dX9_find_9 : decode cX9_find 9 = .ok (.iload 4, 2) := by decide +kernel
theorem dX9_find_11 : decode cX9_find 11 = .ok (.aload_n 0, 1) := by decide +kernel
theorem dX9_find_12 : decode cX9_find 12 = .ok (.arraylength, 1) := by decide +kernel
theorem dX9_find_13 : decode cX9_find 13 = .ok (.if_icmp .ge 21, 3) := by decide +kernel
theorem dX9_find_16 : decode cX9_find 16 = .ok (.aload_n 0, 1) := by decide +kernel
theorem dX9_find_17 : decode cX9_find 17 = .ok (.iload 4, 2) := by decide +kernel
theorem dX9_find_19 : decode cX9_find 19 = .ok (.laload, 1) := by decide +kernel
theorem dX9_find_20 : decode cX9_find 20 = .ok (.lload_n 2, 1) := by decide +kernel
theorem dX9_find_21 : decode cX9_find 21 = .ok (.lcmp, 1) := by decide +kernel
theorem dX9_find_22 : decode cX9_find 22 = .ok (.ifCond .ne 6, 3) := by decide +kernel
theorem dX9_find_25 : decode cX9_find 25 = .ok (.iload 4, 2) := by decide +kernel
theorem dX9_find_27 : decode cX9_find 27 = .ok (.ireturn, 1) := by decide +kernel
theorem dX9_find_28 : decode cX9_find 28 = .ok (.iinc 4 1, 3) := by decide +kernel
theorem dX9_find_31 : decode cX9_find 31 = .ok (.goto (-28), 3) := by decide +kernel
theorem dX9_find_34 : decode cX9_find 34 = .ok (.iconst (-1), 1) := by decide +kernel
theorem dX9_find_35 : decode cX9_find 35 = .ok (.ireturn, 1) := by decide +kernel
theorem dX10_init_0 : decode cX10_init 0 = .ok (.aload_n 0, 1) := by decide +kernel
theorem dX10_init_1 : decode cX10_init 1 = .ok (.invokespecial 1, 3) := by decide +kernel
theorem dX10_init_4 : decode cX10_init 4 = .ok (.aload_n 0, 1) := by decide +kernel
theorem dX10_init_5 : decode cX10_init 5 = .ok (.new 7, 3) := by decide +kernel
theorem dX10_init_8 : decode cX10_init 8 = .ok (.dup, 1) := by decide +kernel
theorem dX10_init_9 : decode cX10_init 9 = .ok (.invokespecial 9, 3) := by decide +kernel
theorem dX10_init_12 : decode cX10_init 12 = .ok (.putfield 10, 3) := by decide +kernel
theorem dX10_init_15 : decode cX10_init 15 = .ok (.aload_n 0, 1) := by decide +kernel
theorem dX10_init_16 : decode cX10_init 16 = .ok (.new 7, 3) := by decide +kernel
theorem dX10_init_19 : decode cX10_init 19 = .ok (.dup, 1) := by decide +kernel
theorem dX10_init_20 : decode cX10_init 20 = .ok (.invokespecial 9, 3) := by decide +kernel
theorem dX10_init_23 : decode cX10_init 23 = .ok (.putfield 16, 3) := by decide +kernel
theorem dX10_init_26 : decode cX10_init 26 = .ok (.aload_n 0, 1) := by decide +kernel
theorem dX10_init_27 : decode cX10_init 27 = .ok (.new 19, 3) := by decide +kernel
theorem dX10_init_30 : decode cX10_init 30 = .ok (.dup, 1) := by decide +kernel
theorem dX10_init_31 : decode cX10_init 31 = .ok (.invokespecial 21, 3) := by decide +kernel
theorem dX10_init_34 : decode cX10_init 34 = .ok (.putfield 22, 3) := by decide +kernel
theorem dX10_init_37 : decode cX10_init 37 = .ok (.aload_n 0, 1) := by decide +kernel
theorem dX10_init_38 : decode cX10_init 38 = .ok (.new 26, 3) := by decide +kernel
theorem dX10_init_41 : decode cX10_init 41 = .ok (.dup, 1) := by decide +kernel
theorem dX10_init_42 : decode cX10_init 42 = .ok (.aload_n 0, 1) := by decide +kernel
theorem dX10_init_43 : decode cX10_init 43 = .ok (.getfield 22, 3) := by decide +kernel
theorem dX10_init_46 : decode cX10_init 46 = .ok (.aload_n 0, 1) := by decide +kernel
theorem dX10_init_47 : decode cX10_init 47 = .ok (.getfield 16, 3) := by decide +kernel
theorem dX10_init_50 : decode cX10_init 50 = .ok (.invokespecial 28, 3) := by decide +kernel
theorem dX10_init_53 : decode cX10_init 53 = .ok (.putfield 31, 3) := by decide +kernel
theorem dX10_init_56 : decode cX10_init 56 = .ok (.aload_n 0, 1) := by decide +kernel
theorem dX10_init_57 : decode cX10_init 57 = .ok (.new 35, 3) := by decide +kernel
theorem dX10_init_60 : decode cX10_init 60 = .ok (.dup, 1) := by decide +kernel
theorem dX10_init_61 : decode cX10_init 61 = .ok (.aload_n 0, 1) := by decide +kernel
theorem dX10_init_62 : decode cX10_init 62 = .ok (.getfield 10, 3) := by decide +kernel
theorem dX10_init_65 : decode cX10_init 65 = .ok (.invokespecial 37, 3) := by decide +kernel
theorem dX10_init_68 : decode cX10_init 68 = .ok (.putfield 40, 3) := by decide +kernel
theorem dX10_init_71 : decode cX10_init 71 = .ok (.aload_n 0, 1) := by decide +kernel
theorem dX10_init_72 : decode cX10_init 72 = .ok (.new 44, 3) := by decide +kernel
theorem dX10_init_75 : decode cX10_init 75 = .ok (.dup, 1) := by decide +kernel
theorem dX10_init_76 : decode cX10_init 76 = .ok (.invokespecial 46, 3) := by decide +kernel
theorem dX10_init_79 : decode cX10_init 79 = .ok (.putfield 47, 3) := by decide +kernel
theorem dX10_init_82 : decode cX10_init 82 = .ok (.aload_n 0, 1) := by decide +kernel
theorem dX10_init_83 : decode cX10_init 83 = .ok (.new 44, 3) := by decide +kernel
theorem dX10_init_86 : decode cX10_init 86 = .ok (.dup, 1) := by decide +kernel
theorem dX10_init_87 : decode cX10_init 87 = .ok (.invokespecial 46, 3) := by decide +kernel
theorem dX10_init_90 : decode cX10_init 90 = .ok (.putfield 51, 3) := by decide +kernel
theorem dX10_init_93 : decode cX10_init 93 = .ok (.aload_n 0, 1) := by decide +kernel
theorem dX10_init_94 : decode cX10_init 94 = .ok (.new 54, 3) := by decide +kernel
theorem dX10_init_97 : decode cX10_init 97 = .ok (.dup, 1) := by decide +kernel
theorem dX10_init_98 : decode cX10_init 98 = .ok (.invokespecial 56, 3) := by decide +kernel
theorem dX10_init_101 : decode cX10_init 101 = .ok (.putfield 57, 3) := by decide +kernel
theorem dX10_init_104 : decode cX10_init 104 = .ok (.aload_n 0, 1) := by decide +kernel
theorem dX10_init_105 : decode cX10_init 105 = .ok (.iconst 3, 1) := by decide +kernel
theorem dX10_init_106 : decode cX10_init 106 = .ok (.anewarray 44, 3) := by decide +kernel
theorem dX10_init_109 : decode cX10_init 109 = .ok (.dup, 1) := by decide +kernel
theorem dX10_init_110 : decode cX10_init 110 = .ok (.iconst 0, 1) := by decide +kernel
theorem dX10_init_111 : decode cX10_init 111 = .ok (.new 44, 3) := by decide +kernel
theorem dX10_init_114 : decode cX10_init 114 = .ok (.dup, 1) := by decide +kernel
theorem dX10_init_115 : decode cX10_init 115 = .ok (.invokespecial 46, 3) := by decide +kernel
theorem dX10_init_118 : decode cX10_init 118 = .ok (.aastore, 1) := by decide +kernel
theorem dX10_init_119 : decode cX10_init 119 = .ok (.dup, 1) := by decide +kernel
theorem dX10_init_120 : decode cX10_init 120 = .ok (.iconst 1, 1) := by decide +kernel
theorem dX10_init_121 : decode cX10_init 121 = .ok (.new 44, 3) := by decide +kernel
theorem dX10_init_124 : decode cX10_init 124 = .ok (.dup, 1) := by decide +kernel
theorem dX10_init_125 : decode cX10_init 125 = .ok (.invokespecial 46, 3) := by decide +kernel
theorem dX10_init_128 : decode cX10_init 128 = .ok (.aastore, 1) := by decide +kernel
theorem dX10_init_129 : decode cX10_init 129 = .ok (.dup, 1) := by decide +kernel
theorem dX10_init_130 : decode cX10_init 130 = .ok (.iconst 2, 1) := by decide +kernel
theorem dX10_init_131 : decode cX10_init 131 = .ok (.new 44, 3) := by decide +kernel
theorem dX10_init_134 : decode cX10_init 134 = .ok (.dup, 1) := by decide +kernel
theorem dX10_init_135 : decode cX10_init 135 = .ok (.invokespecial 46, 3) := by decide +kernel
theorem dX10_init_138 : decode cX10_init 138 = .ok (.aastore, 1) := by decide +kernel
theorem dX10_init_139 : decode cX10_init 139 = .ok (.putfield 61, 3) := by decide +kernel
theorem dX10_init_142 : decode cX10_init 142 = .ok (.aload_n 0, 1) := by decide +kernel
theorem dX10_init_143 : decode cX10_init 143 = .ok (.new 65, 3) := by decide +kernel
theorem dX10_init_146 : decode cX10_init 146 = .ok (.dup, 1) := by decide +kernel
theorem dX10_init_147 : decode cX10_init 147 = .ok (.invokespecial 67, 3) := by decide +kernel
theorem dX10_init_150 : decode cX10_init 150 = .ok (.putfield 68, 3) := by decide +kernel
theorem dX10_init_153 : decode cX10_init 153 = .ok (.aload_n 0, 1) := by decide +kernel
theorem dX10_init_154 : decode cX10_init 154 = .ok (.new 72, 3) := by decide +kernel
theorem dX10_init_157 : decode cX10_init 157 = .ok (.dup, 1) := by decide +kernel
theorem dX10_init_158 : decode cX10_init 158 = .ok (.invokespecial 74, 3) := by decide +kernel
theorem dX10_init_161 : decode cX10_init 161 = .ok (.putfield 75, 3) := by decide +kernel
theorem dX10_init_164 : decode cX10_init 164 = .ok (.aload_n 0, 1) := by decide +kernel
theorem dX10_init_165 : decode cX10_init 165 = .ok (.invokevirtual 79, 3) := by decide +kernel
theorem dX10_init_168 : decode cX10_init 168 = .ok (.return_, 1) := by decide +kernel
theorem dX10_feed_0 : decode cX10_feed 0 = .ok (.aload_n 0, 1) := by decide +kernel
theorem dX10_feed_1 : decode cX10_feed 1 = .ok (.getfield 22, 3) := by decide +kernel
theorem dX10_feed_4 : decode cX10_feed 4 = .ok (.bipush 20, 2) := by decide +kernel
theorem dX10_feed_6 : decode cX10_feed 6 = .ok (.invokevirtual 82, 3) := by decide +kernel
theorem dX10_feed_9 : decode cX10_feed 9 = .ok (.ifCond .ne 5, 3) := by decide +kernel
theorem dX10_feed_12 : decode cX10_feed 12 = .ok (.iconst (-1), 1) := by decide +kernel
theorem dX10_feed_13 : decode cX10_feed 13 = .ok (.ireturn, 1) := by decide +kernel
theorem dX10_feed_14 : decode cX10_feed 14 = .ok (.aload_n 0, 1) := by decide +kernel
theorem dX10_feed_15 : decode cX10_feed 15 = .ok (.getfield 22, 3) := by decide +kernel
theorem dX10_feed_18 : decode cX10_feed 18 = .ok (.iload_n 1, 1) := by decide +kernel
theorem dX10_feed_19 : decode cX10_feed 19 = .ok (.invokevirtual 86, 3) := by decide +kernel
theorem dX10_feed_22 : decode cX10_feed 22 = .ok (.aload_n 0, 1) := by decide +kernel
theorem dX10_feed_23 : decode cX10_feed 23 = .ok (.getfield 22, 3) := by decide +kernel
theorem dX10_feed_26 : decode cX10_feed 26 = .ok (.iload_n 2, 1) := by decide +kernel
theorem dX10_feed_27 : decode cX10_feed 27 = .ok (.invokevirtual 86, 3) := by decide +kernel
theorem dX10_feed_30 : decode cX10_feed 30 = .ok (.aload_n 0, 1) := by decide +kernel
theorem dX10_feed_31 : decode cX10_feed 31 = .ok (.getfield 22, 3) := by decide +kernel
theorem dX10_feed_34 : decode cX10_feed 34 = .ok (.iload_n 3, 1) := by decide +kernel
theorem dX10_feed_35 : decode cX10_feed 35 = .ok (.invokevirtual 86, 3) := by decide +kernel
theorem dX10_feed_38 : decode cX10_feed 38 = .ok (.aload_n 0, 1) := by decide +kernel
theorem dX10_feed_39 : decode cX10_feed 39 = .ok (.getfield 22, 3) := by decide +kernel
theorem dX10_feed_42 : decode cX10_feed 42 = .ok (.iload 4, 2) := by decide +kernel
theorem dX10_feed_44 : decode cX10_feed 44 = .ok (.invokevirtual 86, 3) := by decide +kernel
theorem dX10_feed_47 : decode cX10_feed 47 = .ok (.aload_n 0, 1) := by decide +kernel
theorem dX10_feed_48 : decode cX10_feed 48 = .ok (.getfield 22, 3) := by decide +kernel
theorem dX10_feed_51 : decode cX10_feed 51 = .ok (.iload 5, 2) := by decide +kernel
theorem dX10_feed_53 : decode cX10_feed 53 = .ok (.invokevirtual 86, 3) := by decide +kernel
theorem dX10_feed_56 : decode cX10_feed 56 = .ok (.aload_n 0, 1) := by decide +kernel
theorem dX10_feed_57 : decode cX10_feed 57 = .ok (.getfield 22, 3) := by decide +kernel
theorem dX10_feed_60 : decode cX10_feed 60 = .ok (.getfield 90, 3) := by decide +kernel
theorem dX10_feed_63 : decode cX10_feed 63 = .ok (.ireturn, 1) := by decide +kernel
theorem dX10_end_0 : decode cX10_end 0 = .ok (.iload_n 1, 1) := by decide +kernel
theorem dX10_end_1 : decode cX10_end 1 = .ok (.ifCond .lt 14, 3) := by decide +kernel
theorem dX10_end_4 : decode cX10_end 4 = .ok (.iload_n 1, 1) := by decide +kernel
theorem dX10_end_5 : decode cX10_end 5 = .ok (.aload_n 0, 1) := by decide +kernel
theorem dX10_end_6 : decode cX10_end 6 = .ok (.getfield 22, 3) := by decide +kernel
theorem dX10_end_9 : decode cX10_end 9 = .ok (.getfield 90, 3) := by decide +kernel
theorem dX10_end_12 : decode cX10_end 12 = .ok (.if_icmp .le 5, 3) := by decide +kernel
theorem dX10_end_15 : decode cX10_end 15 = .ok (.iconst (-1), 1) := by decide +kernel
theorem dX10_end_16 : decode cX10_end 16 = .ok (.ireturn, 1) := by decide +kernel
theorem dX10_end_17 : decode cX10_end 17 = .ok (.aload_n 0, 1) := by decide +kernel
theorem dX10_end_18 : decode cX10_end 18 = .ok (.getfield 22, 3) := by decide +kernel
theorem dX10_end_21 : decode cX10_end 21 = .ok (.iload_n 1, 1) := by decide +kernel
theorem dX10_end_22 : decode cX10_end 22 = .ok (.putfield 90, 3) := by decide +kernel
theorem dX10_end_25 : decode cX10_end 25 = .ok (.iload_n 1, 1) := by decide +kernel
theorem dX10_end_26 : decode cX10_end 26 = .ok (.ireturn, 1) := by decide +kernel
theorem dX10_town_0 : decode cX10_town 0 = .ok (.iconst 1, 1) := by decide +kernel
theorem dX10_town_1 : decode cX10_town 1 = .ok (.istore_n 1, 1) := by decide +kernel
theorem dX10_town_2 : decode cX10_town 2 = .ok (.aload_n 0, 1) := by decide +kernel
theorem dX10_town_3 : decode cX10_town 3 = .ok (.getfield 31, 3) := by decide +kernel
theorem dX10_town_6 : decode cX10_town 6 = .ok (.aload_n 0, 1) := by decide +kernel
theorem dX10_town_7 : decode cX10_town 7 = .ok (.getfield 16, 3) := by decide +kernel
theorem dX10_town_10 : decode cX10_town 10 = .ok (.invokevirtual 94, 3) := by decide +kernel
theorem dX10_town_13 : decode cX10_town 13 = .ok (.iconst 0, 1) := by decide +kernel
theorem dX10_town_14 : decode cX10_town 14 = .ok (.istore_n 2, 1) := by decide +kernel
theorem dX10_town_15 : decode cX10_town 15 = .ok (.iload_n 2, 1) := by decide +kernel
theorem dX10_town_16 : decode cX10_town 16 = .ok (.sipush 1600, 3) := by decide +kernel
theorem dX10_town_19 : decode cX10_town 19 = .ok (.if_icmp .ge 31, 3) := by decide +kernel
theorem dX10_town_22 : decode cX10_town 22 = .ok (.iload_n 1, 1) := by decide +kernel
theorem dX10_town_23 : decode cX10_town 23 = .ok (.ifCond .eq 27, 3) := by decide +kernel
theorem dX10_town_26 : decode cX10_town 26 = .ok (.aload_n 0, 1) := by decide +kernel
theorem dX10_town_27 : decode cX10_town 27 = .ok (.getfield 22, 3) := by decide +kernel
theorem dX10_town_30 : decode cX10_town 30 = .ok (.getfield 97, 3) := by decide +kernel
theorem dX10_town_33 : decode cX10_town 33 = .ok (.ifCond .eq 17, 3) := by decide +kernel
theorem dX10_town_36 : decode cX10_town 36 = .ok (.aload_n 0, 1) := by decide +kernel
theorem dX10_town_37 : decode cX10_town 37 = .ok (.getfield 31, 3) := by decide +kernel
theorem dX10_town_40 : decode cX10_town 40 = .ok (.invokevirtual 100, 3) := by decide +kernel
theorem dX10_town_43 : decode cX10_town 43 = .ok (.istore_n 1, 1) := by decide +kernel
theorem dX10_town_44 : decode cX10_town 44 = .ok (.iinc 2 1, 3) := by decide +kernel
theorem dX10_town_47 : decode cX10_town 47 = .ok (.goto (-32), 3) := by decide +kernel
theorem dX10_town_50 : decode cX10_town 50 = .ok (.aload_n 0, 1) := by decide +kernel
theorem dX10_town_51 : decode cX10_town 51 = .ok (.getfield 22, 3) := by decide +kernel
theorem dX10_town_54 : decode cX10_town 54 = .ok (.iconst 0, 1) := by decide +kernel
theorem dX10_town_55 : decode cX10_town 55 = .ok (.putfield 90, 3) := by decide +kernel
theorem dX10_town_58 : decode cX10_town 58 = .ok (.iload_n 1, 1) := by decide +kernel
theorem dX10_town_59 : decode cX10_town 59 = .ok (.ifCond .ne 5, 3) := by decide +kernel
theorem dX10_town_62 : decode cX10_town 62 = .ok (.iconst (-1), 1) := by decide +kernel
theorem dX10_town_63 : decode cX10_town 63 = .ok (.ireturn, 1) := by decide +kernel
theorem dX10_town_64 : decode cX10_town 64 = .ok (.aload_n 0, 1) := by decide +kernel
theorem dX10_town_65 : decode cX10_town 65 = .ok (.getfield 16, 3) := by decide +kernel
theorem dX10_town_68 : decode cX10_town 68 = .ok (.getfield 104, 3) := by decide +kernel
theorem dX10_town_71 : decode cX10_town 71 = .ok (.aload_n 0, 1) := by decide +kernel
theorem dX10_town_72 : decode cX10_town 72 = .ok (.getfield 16, 3) := by decide +kernel
theorem dX10_town_75 : decode cX10_town 75 = .ok (.getfield 108, 3) := by decide +kernel
theorem dX10_town_78 : decode cX10_town 78 = .ok (.invokevirtual 111, 3) := by decide +kernel
theorem dX10_town_81 : decode cX10_town 81 = .ok (.aload_n 0, 1) := by decide +kernel
theorem dX10_town_82 : decode cX10_town 82 = .ok (.getfield 10, 3) := by decide +kernel
theorem dX10_town_85 : decode cX10_town 85 = .ok (.astore_n 2, 1) := by decide +kernel
theorem dX10_town_86 : decode cX10_town 86 = .ok (.aload_n 0, 1) := by decide +kernel
theorem dX10_town_87 : decode cX10_town 87 = .ok (.aload_n 0, 1) := by decide +kernel
theorem dX10_town_88 : decode cX10_town 88 = .ok (.getfield 16, 3) := by decide +kernel
theorem dX10_town_91 : decode cX10_town 91 = .ok (.putfield 10, 3) := by decide +kernel
theorem dX10_town_94 : decode cX10_town 94 = .ok (.aload_n 0, 1) := by decide +kernel
theorem dX10_town_95 : decode cX10_town 95 = .ok (.aload_n 2, 1) := by decide +kernel
theorem dX10_town_96 : decode cX10_town 96 = .ok (.putfield 16, 3) := by decide +kernel
theorem dX10_town_99 : decode cX10_town 99 = .ok (.aload_n 0, 1) := by decide +kernel
theorem dX10_town_100 : decode cX10_town 100 = .ok (.invokevirtual 79, 3) := by decide +kernel
theorem dX10_town_103 : decode cX10_town 103 = .ok (.aload_n 0, 1) := by decide +kernel
theorem dX10_town_104 : decode cX10_town 104 = .ok (.getfield 10, 3) := by decide +kernel
theorem dX10_town_107 : decode cX10_town 107 = .ok (.getfield 108, 3) := by decide +kernel
theorem dX10_town_110 : decode cX10_town 110 = .ok (.ireturn, 1) := by decide +kernel
theorem dX10_fault_0 : decode cX10_fault 0 = .ok (.iload_n 1, 1) := by decide +kernel
theorem dX10_fault_1 : decode cX10_fault 1 = .ok (.lookupswitch 43 #[(0, 27), (1, 35)], 27) := by decide +kernel
theorem dX10_fault_28 : decode cX10_fault 28 = .ok (.aload_n 0, 1) := by decide +kernel
theorem dX10_fault_29 : decode cX10_fault 29 = .ok (.getfield 31, 3) := by decide +kernel
theorem dX10_fault_32 : decode cX10_fault 32 = .ok (.getfield 116, 3) := by decide +kernel
theorem dX10_fault_35 : decode cX10_fault 35 = .ok (.ireturn, 1) := by decide +kernel
theorem dX10_fault_36 : decode cX10_fault 36 = .ok (.aload_n 0, 1) := by decide +kernel
theorem dX10_fault_37 : decode cX10_fault 37 = .ok (.getfield 31, 3) := by decide +kernel
theorem dX10_fault_40 : decode cX10_fault 40 = .ok (.getfield 119, 3) := by decide +kernel
theorem dX10_fault_43 : decode cX10_fault 43 = .ok (.ireturn, 1) := by decide +kernel
theorem dX10_fault_44 : decode cX10_fault 44 = .ok (.iconst (-1), 1) := by decide +kernel
theorem dX10_fault_45 : decode cX10_fault 45 = .ok (.ireturn, 1) := by decide +kernel
theorem dX10_person_0 : decode cX10_person 0 = .ok (.aload_n 0, 1) := by decide +kernel
theorem dX10_person_1 : decode cX10_person 1 = .ok (.getfield 10, 3) := by decide +kernel
theorem dX10_person_4 : decode cX10_person 4 = .ok (.iload_n 1, 1) := by decide +kernel
theorem dX10_person_5 : decode cX10_person 5 = .ok (.invokevirtual 122, 3) := by decide +kernel
theorem dX10_person_8 : decode cX10_person 8 = .ok (.ifCond .ne 6, 3) := by decide +kernel
theorem dX10_person_11 : decode cX10_person 11 = .ok (.bipush (-2), 2) := by decide +kernel
theorem dX10_person_13 : decode cX10_person 13 = .ok (.ireturn, 1) := by decide +kernel
theorem dX10_person_14 : decode cX10_person 14 = .ok (.iload_n 2, 1) := by decide +kernel
theorem dX10_person_15 : decode cX10_person 15 = .ok (.tableswitch 180 0 9 #[53, 62, 72, 85, 98, 110, 120, 144, 157, 170], 53) := by decide +kernel
theorem dX10_person_68 : decode cX10_person 68 = .ok (.aload_n 0, 1) := by decide +kernel
theorem dX10_person_69 : decode cX10_person 69 = .ok (.getfield 47, 3) := by decide +kernel
theorem dX10_person_72 : decode cX10_person 72 = .ok (.iload_n 1, 1) := by decide +kernel
theorem dX10_person_73 : decode cX10_person 73 = .ok (.invokevirtual 125, 3) := by decide +kernel
theorem dX10_person_76 : decode cX10_person 76 = .ok (.ireturn, 1) := by decide +kernel
theorem dX10_person_77 : decode cX10_person 77 = .ok (.aload_n 0, 1) := by decide +kernel
theorem dX10_person_78 : decode cX10_person 78 = .ok (.getfield 10, 3) := by decide +kernel
theorem dX10_person_81 : decode cX10_person 81 = .ok (.getfield 129, 3) := by decide +kernel
theorem dX10_person_84 : decode cX10_person 84 = .ok (.iload_n 1, 1) := by decide +kernel
theorem dX10_person_85 : decode cX10_person 85 = .ok (.iaload, 1) := by decide +kernel
theorem dX10_person_86 : decode cX10_person 86 = .ok (.ireturn, 1) := by decide +kernel
theorem dX10_person_87 : decode cX10_person 87 = .ok (.aload_n 0, 1) := by decide +kernel
theorem dX10_person_88 : decode cX10_person 88 = .ok (.getfield 10, 3) := by decide +kernel
theorem dX10_person_91 : decode cX10_person 91 = .ok (.getfield 104, 3) := by decide +kernel
theorem dX10_person_94 : decode cX10_person 94 = .ok (.getfield 133, 3) := by decide +kernel
theorem dX10_person_97 : decode cX10_person 97 = .ok (.iload_n 1, 1) := by decide +kernel
theorem dX10_person_98 : decode cX10_person 98 = .ok (.iaload, 1) := by decide +kernel
theorem dX10_person_99 : decode cX10_person 99 = .ok (.ireturn, 1) := by decide +kernel
theorem dX10_person_100 : decode cX10_person 100 = .ok (.aload_n 0, 1) := by decide +kernel
theorem dX10_person_101 : decode cX10_person 101 = .ok (.getfield 10, 3) := by decide +kernel
theorem dX10_person_104 : decode cX10_person 104 = .ok (.getfield 104, 3) := by decide +kernel
theorem dX10_person_107 : decode cX10_person 107 = .ok (.getfield 136, 3) := by decide +kernel
theorem dX10_person_110 : decode cX10_person 110 = .ok (.iload_n 1, 1) := by decide +kernel
theorem dX10_person_111 : decode cX10_person 111 = .ok (.iaload, 1) := by decide +kernel
theorem dX10_person_112 : decode cX10_person 112 = .ok (.ireturn, 1) := by decide +kernel
theorem dX10_person_113 : decode cX10_person 113 = .ok (.aload_n 0, 1) := by decide +kernel
theorem dX10_person_114 : decode cX10_person 114 = .ok (.getfield 10, 3) := by decide +kernel
theorem dX10_person_117 : decode cX10_person 117 = .ok (.getfield 139, 3) := by decide +kernel
theorem dX10_person_120 : decode cX10_person 120 = .ok (.iload_n 1, 1) := by decide +kernel
theorem dX10_person_121 : decode cX10_person 121 = .ok (.ishr, 1) := by decide +kernel
theorem dX10_person_122 : decode cX10_person 122 = .ok (.iconst 1, 1) := by decide +kernel
theorem dX10_person_123 : decode cX10_person 123 = .ok (.iand, 1) := by decide +kernel
theorem dX10_person_124 : decode cX10_person 124 = .ok (.ireturn, 1) := by decide +kernel
theorem dX10_person_125 : decode cX10_person 125 = .ok (.aload_n 0, 1) := by decide +kernel
theorem dX10_person_126 : decode cX10_person 126 = .ok (.getfield 10, 3) := by decide +kernel
theorem dX10_person_129 : decode cX10_person 129 = .ok (.getfield 142, 3) := by decide +kernel
theorem dX10_person_132 : decode cX10_person 132 = .ok (.iload_n 1, 1) := by decide +kernel
theorem dX10_person_133 : decode cX10_person 133 = .ok (.iaload, 1) := by decide +kernel
theorem dX10_person_134 : decode cX10_person 134 = .ok (.ireturn, 1) := by decide +kernel
theorem dX10_person_135 : decode cX10_person 135 = .ok (.aload_n 0, 1) := by decide +kernel
theorem dX10_person_136 : decode cX10_person 136 = .ok (.getfield 10, 3) := by decide +kernel
theorem dX10_person_139 : decode cX10_person 139 = .ok (.iload_n 1, 1) := by decide +kernel
theorem dX10_person_140 : decode cX10_person 140 = .ok (.aload_n 0, 1) := by decide +kernel
theorem dX10_person_141 : decode cX10_person 141 = .ok (.getfield 47, 3) := by decide +kernel
theorem dX10_person_144 : decode cX10_person 144 = .ok (.invokevirtual 145, 3) := by decide +kernel
theorem dX10_person_147 : decode cX10_person 147 = .ok (.invokevirtual 149, 3) := by decide +kernel
theorem dX10_person_150 : decode cX10_person 150 = .ok (.ifCond .eq 7, 3) := by decide +kernel
theorem dX10_person_153 : decode cX10_person 153 = .ok (.iconst 1, 1) := by decide +kernel
theorem dX10_person_154 : decode cX10_person 154 = .ok (.goto 4, 3) := by decide +kernel
theorem dX10_person_157 : decode cX10_person 157 = .ok (.iconst 0, 1) := by decide +kernel
theorem dX10_person_158 : decode cX10_person 158 = .ok (.ireturn, 1) := by decide +kernel
theorem dX10_person_159 : decode cX10_person 159 = .ok (.aload_n 0, 1) := by decide +kernel
theorem dX10_person_160 : decode cX10_person 160 = .ok (.getfield 40, 3) := by decide +kernel
theorem dX10_person_163 : decode cX10_person 163 = .ok (.aload_n 0, 1) := by decide +kernel
theorem dX10_person_164 : decode cX10_person 164 = .ok (.getfield 47, 3) := by decide +kernel
theorem dX10_person_167 : decode cX10_person 167 = .ok (.iload_n 1, 1) := by decide +kernel
theorem dX10_person_168 : decode cX10_person 168 = .ok (.invokevirtual 153, 3) := by decide +kernel
theorem dX10_person_171 : decode cX10_person 171 = .ok (.ireturn, 1) := by decide +kernel
theorem dX10_person_172 : decode cX10_person 172 = .ok (.aload_n 0, 1) := by decide +kernel
theorem dX10_person_173 : decode cX10_person 173 = .ok (.getfield 10, 3) := by decide +kernel
theorem dX10_person_176 : decode cX10_person 176 = .ok (.getfield 104, 3) := by decide +kernel
theorem dX10_person_179 : decode cX10_person 179 = .ok (.getfield 157, 3) := by decide +kernel
theorem dX10_person_182 : decode cX10_person 182 = .ok (.iload_n 1, 1) := by decide +kernel
theorem dX10_person_183 : decode cX10_person 183 = .ok (.iaload, 1) := by decide +kernel
theorem dX10_person_184 : decode cX10_person 184 = .ok (.ireturn, 1) := by decide +kernel
theorem dX10_person_185 : decode cX10_person 185 = .ok (.aload_n 0, 1) := by decide +kernel
theorem dX10_person_186 : decode cX10_person 186 = .ok (.getfield 10, 3) := by decide +kernel
theorem dX10_person_189 : decode cX10_person 189 = .ok (.getfield 160, 3) := by decide +kernel
theorem dX10_person_192 : decode cX10_person 192 = .ok (.iload_n 1, 1) := by decide +kernel
theorem dX10_person_193 : decode cX10_person 193 = .ok (.iaload, 1) := by decide +kernel
theorem dX10_person_194 : decode cX10_person 194 = .ok (.ireturn, 1) := by decide +kernel
theorem dX10_person_195 : decode cX10_person 195 = .ok (.bipush (-2), 2) := by decide +kernel
theorem dX10_person_197 : decode cX10_person 197 = .ok (.ireturn, 1) := by decide +kernel
theorem dX10_pair_0 : decode cX10_pair 0 = .ok (.aload_n 0, 1) := by decide +kernel
theorem dX10_pair_1 : decode cX10_pair 1 = .ok (.getfield 10, 3) := by decide +kernel
theorem dX10_pair_4 : decode cX10_pair 4 = .ok (.iload_n 1, 1) := by decide +kernel
theorem dX10_pair_5 : decode cX10_pair 5 = .ok (.invokevirtual 163, 3) := by decide +kernel
theorem dX10_pair_8 : decode cX10_pair 8 = .ok (.ifCond .ne 5, 3) := by decide +kernel
theorem dX10_pair_11 : decode cX10_pair 11 = .ok (.iconst (-1), 1) := by decide +kernel
theorem dX10_pair_12 : decode cX10_pair 12 = .ok (.ireturn, 1) := by decide +kernel
theorem dX10_pair_13 : decode cX10_pair 13 = .ok (.iload_n 2, 1) := by decide +kernel
theorem dX10_pair_14 : decode cX10_pair 14 = .ok (.tableswitch 148 0 8 #[50, 60, 70, 79, 88, 97, 106, 119, 132], 50) := by decide +kernel
theorem dX10_pair_64 : decode cX10_pair 64 = .ok (.aload_n 0, 1) := by decide +kernel
theorem dX10_pair_65 : decode cX10_pair 65 = .ok (.getfield 10, 3) := by decide +kernel
theorem dX10_pair_68 : decode cX10_pair 68 = .ok (.getfield 166, 3) := by decide +kernel
theorem dX10_pair_71 : decode cX10_pair 71 = .ok (.iload_n 1, 1) := by decide +kernel
theorem dX10_pair_72 : decode cX10_pair 72 = .ok (.iaload, 1) := by decide +kernel
theorem dX10_pair_73 : decode cX10_pair 73 = .ok (.ireturn, 1) := by decide +kernel
theorem dX10_pair_74 : decode cX10_pair 74 = .ok (.aload_n 0, 1) := by decide +kernel
theorem dX10_pair_75 : decode cX10_pair 75 = .ok (.getfield 10, 3) := by decide +kernel
theorem dX10_pair_78 : decode cX10_pair 78 = .ok (.getfield 169, 3) := by decide +kernel
theorem dX10_pair_81 : decode cX10_pair 81 = .ok (.iload_n 1, 1) := by decide +kernel
theorem dX10_pair_82 : decode cX10_pair 82 = .ok (.iaload, 1) := by decide +kernel
theorem dX10_pair_83 : decode cX10_pair 83 = .ok (.ireturn, 1) := by decide +kernel
theorem dX10_pair_84 : decode cX10_pair 84 = .ok (.aload_n 0, 1) := by decide +kernel
theorem dX10_pair_85 : decode cX10_pair 85 = .ok (.getfield 47, 3) := by decide +kernel
theorem dX10_pair_88 : decode cX10_pair 88 = .ok (.iload_n 1, 1) := by decide +kernel
theorem dX10_pair_89 : decode cX10_pair 89 = .ok (.invokevirtual 172, 3) := by decide +kernel
theorem dX10_pair_92 : decode cX10_pair 92 = .ok (.ireturn, 1) := by decide +kernel
theorem dX10_pair_93 : decode cX10_pair 93 = .ok (.aload_n 0, 1) := by decide +kernel
theorem dX10_pair_94 : decode cX10_pair 94 = .ok (.getfield 47, 3) := by decide +kernel
theorem dX10_pair_97 : decode cX10_pair 97 = .ok (.iload_n 1, 1) := by decide +kernel
theorem dX10_pair_98 : decode cX10_pair 98 = .ok (.invokevirtual 175, 3) := by decide +kernel
theorem dX10_pair_101 : decode cX10_pair 101 = .ok (.ireturn, 1) := by decide +kernel
theorem dX10_pair_102 : decode cX10_pair 102 = .ok (.aload_n 0, 1) := by decide +kernel
theorem dX10_pair_103 : decode cX10_pair 103 = .ok (.getfield 47, 3) := by decide +kernel
theorem dX10_pair_106 : decode cX10_pair 106 = .ok (.iload_n 1, 1) := by decide +kernel
theorem dX10_pair_107 : decode cX10_pair 107 = .ok (.invokevirtual 178, 3) := by decide +kernel
theorem dX10_pair_110 : decode cX10_pair 110 = .ok (.ireturn, 1) := by decide +kernel
theorem dX10_pair_111 : decode cX10_pair 111 = .ok (.aload_n 0, 1) := by decide +kernel
theorem dX10_pair_112 : decode cX10_pair 112 = .ok (.getfield 47, 3) := by decide +kernel
theorem dX10_pair_115 : decode cX10_pair 115 = .ok (.iload_n 1, 1) := by decide +kernel
theorem dX10_pair_116 : decode cX10_pair 116 = .ok (.invokevirtual 181, 3) := by decide +kernel
theorem dX10_pair_119 : decode cX10_pair 119 = .ok (.ireturn, 1) := by decide +kernel
theorem dX10_pair_120 : decode cX10_pair 120 = .ok (.aload_n 0, 1) := by decide +kernel
theorem dX10_pair_121 : decode cX10_pair 121 = .ok (.getfield 40, 3) := by decide +kernel
theorem dX10_pair_124 : decode cX10_pair 124 = .ok (.aload_n 0, 1) := by decide +kernel
theorem dX10_pair_125 : decode cX10_pair 125 = .ok (.getfield 47, 3) := by decide +kernel
theorem dX10_pair_128 : decode cX10_pair 128 = .ok (.iload_n 1, 1) := by decide +kernel
theorem dX10_pair_129 : decode cX10_pair 129 = .ok (.invokevirtual 184, 3) := by decide +kernel
theorem dX10_pair_132 : decode cX10_pair 132 = .ok (.ireturn, 1) := by decide +kernel
theorem dX10_pair_133 : decode cX10_pair 133 = .ok (.aload_n 0, 1) := by decide +kernel
theorem dX10_pair_134 : decode cX10_pair 134 = .ok (.getfield 40, 3) := by decide +kernel
theorem dX10_pair_137 : decode cX10_pair 137 = .ok (.aload_n 0, 1) := by decide +kernel
theorem dX10_pair_138 : decode cX10_pair 138 = .ok (.getfield 47, 3) := by decide +kernel
theorem dX10_pair_141 : decode cX10_pair 141 = .ok (.iload_n 1, 1) := by decide +kernel
theorem dX10_pair_142 : decode cX10_pair 142 = .ok (.invokevirtual 187, 3) := by decide +kernel
theorem dX10_pair_145 : decode cX10_pair 145 = .ok (.ireturn, 1) := by decide +kernel
theorem dX10_pair_146 : decode cX10_pair 146 = .ok (.aload_n 0, 1) := by decide +kernel
theorem dX10_pair_147 : decode cX10_pair 147 = .ok (.getfield 40, 3) := by decide +kernel
theorem dX10_pair_150 : decode cX10_pair 150 = .ok (.aload_n 0, 1) := by decide +kernel
theorem dX10_pair_151 : decode cX10_pair 151 = .ok (.getfield 47, 3) := by decide +kernel
theorem dX10_pair_154 : decode cX10_pair 154 = .ok (.invokevirtual 190, 3) := by decide +kernel
theorem dX10_pair_157 : decode cX10_pair 157 = .ok (.iload_n 1, 1) := by decide +kernel
theorem dX10_pair_158 : decode cX10_pair 158 = .ok (.ishr, 1) := by decide +kernel
theorem dX10_pair_159 : decode cX10_pair 159 = .ok (.iconst 1, 1) := by decide +kernel
theorem dX10_pair_160 : decode cX10_pair 160 = .ok (.iand, 1) := by decide +kernel
theorem dX10_pair_161 : decode cX10_pair 161 = .ok (.ireturn, 1) := by decide +kernel
theorem dX10_pair_162 : decode cX10_pair 162 = .ok (.iconst (-1), 1) := by decide +kernel
theorem dX10_pair_163 : decode cX10_pair 163 = .ok (.ireturn, 1) := by decide +kernel
theorem dX10_degree_0 : decode cX10_degree 0 = .ok (.aload_n 0, 1) := by decide +kernel
theorem dX10_degree_1 : decode cX10_degree 1 = .ok (.getfield 10, 3) := by decide +kernel
theorem dX10_degree_4 : decode cX10_degree 4 = .ok (.iload_n 1, 1) := by decide +kernel
theorem dX10_degree_5 : decode cX10_degree 5 = .ok (.invokevirtual 122, 3) := by decide +kernel
theorem dX10_degree_8 : decode cX10_degree 8 = .ok (.ifCond .eq 14, 3) := by decide +kernel
theorem dX10_degree_11 : decode cX10_degree 11 = .ok (.aload_n 0, 1) := by decide +kernel
theorem dX10_degree_12 : decode cX10_degree 12 = .ok (.getfield 10, 3) := by decide +kernel
theorem dX10_degree_15 : decode cX10_degree 15 = .ok (.iload_n 2, 1) := by decide +kernel
theorem dX10_degree_16 : decode cX10_degree 16 = .ok (.invokevirtual 122, 3) := by decide +kernel
theorem dX10_degree_19 : decode cX10_degree 19 = .ok (.ifCond .ne 5, 3) := by decide +kernel
theorem dX10_degree_22 : decode cX10_degree 22 = .ok (.iconst (-1), 1) := by decide +kernel
theorem dX10_degree_23 : decode cX10_degree 23 = .ok (.ireturn, 1) := by decide +kernel
theorem dX10_degree_24 : decode cX10_degree 24 = .ok (.aload_n 0, 1) := by decide +kernel
theorem dX10_degree_25 : decode cX10_degree 25 = .ok (.getfield 10, 3) := by decide +kernel
theorem dX10_degree_28 : decode cX10_degree 28 = .ok (.getfield 104, 3) := by decide +kernel
theorem dX10_degree_31 : decode cX10_degree 31 = .ok (.iload_n 1, 1) := by decide +kernel
theorem dX10_degree_32 : decode cX10_degree 32 = .ok (.iload_n 2, 1) := by decide +kernel
theorem dX10_degree_33 : decode cX10_degree 33 = .ok (.invokevirtual 194, 3) := by decide +kernel
theorem dX10_degree_36 : decode cX10_degree 36 = .ok (.ireturn, 1) := by decide +kernel
theorem dX10_ancestors_0 : decode cX10_ancestors 0 = .ok (.aload_n 0, 1) := by decide +kernel
theorem dX10_ancestors_1 : decode cX10_ancestors 1 = .ok (.getfield 10, 3) := by decide +kernel
theorem dX10_ancestors_4 : decode cX10_ancestors 4 = .ok (.iload_n 1, 1) := by decide +kernel
theorem dX10_ancestors_5 : decode cX10_ancestors 5 = .ok (.invokevirtual 122, 3) := by decide +kernel
theorem dX10_ancestors_8 : decode cX10_ancestors 8 = .ok (.ifCond .eq 17, 3) := by decide +kernel
theorem dX10_ancestors_11 : decode cX10_ancestors 11 = .ok (.aload_n 0, 1) := by decide +kernel
theorem dX10_ancestors_12 : decode cX10_ancestors 12 = .ok (.getfield 10, 3) := by decide +kernel
theorem dX10_ancestors_15 : decode cX10_ancestors 15 = .ok (.getfield 104, 3) := by decide +kernel
theorem dX10_ancestors_18 : decode cX10_ancestors 18 = .ok (.iload_n 1, 1) := by decide +kernel
theorem dX10_ancestors_19 : decode cX10_ancestors 19 = .ok (.invokevirtual 198, 3) := by decide +kernel
theorem dX10_ancestors_22 : decode cX10_ancestors 22 = .ok (.goto 4, 3) := by decide +kernel
theorem dX10_ancestors_25 : decode cX10_ancestors 25 = .ok (.iconst (-1), 1) := by decide +kernel
theorem dX10_ancestors_26 : decode cX10_ancestors 26 = .ok (.ireturn, 1) := by decide +kernel
theorem dX10_hearing_0 : decode cX10_hearing 0 = .ok (.aload_n 0, 1) := by decide +kernel
theorem dX10_hearing_1 : decode cX10_hearing 1 = .ok (.getfield 10, 3) := by decide +kernel
theorem dX10_hearing_4 : decode cX10_hearing 4 = .ok (.iload_n 1, 1) := by decide +kernel
theorem dX10_hearing_5 : decode cX10_hearing 5 = .ok (.invokevirtual 122, 3) := by decide +kernel
theorem dX10_hearing_8 : decode cX10_hearing 8 = .ok (.ifCond .ne 5, 3) := by decide +kernel
theorem dX10_hearing_11 : decode cX10_hearing 11 = .ok (.iconst (-1), 1) := by decide +kernel
theorem dX10_hearing_12 : decode cX10_hearing 12 = .ok (.ireturn, 1) := by decide +kernel
theorem dX10_hearing_13 : decode cX10_hearing 13 = .ok (.aload_n 0, 1) := by decide +kernel
theorem dX10_hearing_14 : decode cX10_hearing 14 = .ok (.getfield 40, 3) := by decide +kernel
theorem dX10_hearing_17 : decode cX10_hearing 17 = .ok (.aload_n 0, 1) := by decide +kernel
theorem dX10_hearing_18 : decode cX10_hearing 18 = .ok (.getfield 47, 3) := by decide +kernel
theorem dX10_hearing_21 : decode cX10_hearing 21 = .ok (.iload_n 1, 1) := by decide +kernel
theorem dX10_hearing_22 : decode cX10_hearing 22 = .ok (.aload_n 0, 1) := by decide +kernel
theorem dX10_hearing_23 : decode cX10_hearing 23 = .ok (.getfield 40, 3) := by decide +kernel
theorem dX10_hearing_26 : decode cX10_hearing 26 = .ok (.aload_n 0, 1) := by decide +kernel
theorem dX10_hearing_27 : decode cX10_hearing 27 = .ok (.getfield 47, 3) := by decide +kernel
theorem dX10_hearing_30 : decode cX10_hearing 30 = .ok (.invokevirtual 190, 3) := by decide +kernel
theorem dX10_hearing_33 : decode cX10_hearing 33 = .ok (.invokevirtual 201, 3) := by decide +kernel
theorem dX10_hearing_36 : decode cX10_hearing 36 = .ok (.ireturn, 1) := by decide +kernel
theorem dX10_church_0 : decode cX10_church 0 = .ok (.aload_n 0, 1) := by decide +kernel
theorem dX10_church_1 : decode cX10_church 1 = .ok (.getfield 10, 3) := by decide +kernel
theorem dX10_church_4 : decode cX10_church 4 = .ok (.iload_n 1, 1) := by decide +kernel
theorem dX10_church_5 : decode cX10_church 5 = .ok (.invokevirtual 205, 3) := by decide +kernel
theorem dX10_church_8 : decode cX10_church 8 = .ok (.ifCond .ne 5, 3) := by decide +kernel
theorem dX10_church_11 : decode cX10_church 11 = .ok (.iconst (-1), 1) := by decide +kernel
theorem dX10_church_12 : decode cX10_church 12 = .ok (.ireturn, 1) := by decide +kernel
theorem dX10_church_13 : decode cX10_church 13 = .ok (.iload_n 2, 1) := by decide +kernel
theorem dX10_church_14 : decode cX10_church 14 = .ok (.lookupswitch 63 #[(0, 26), (1, 39)], 26) := by decide +kernel
theorem dX10_church_40 : decode cX10_church 40 = .ok (.aload_n 0, 1) := by decide +kernel
theorem dX10_church_41 : decode cX10_church 41 = .ok (.getfield 40, 3) := by decide +kernel
theorem dX10_church_44 : decode cX10_church 44 = .ok (.aload_n 0, 1) := by decide +kernel
theorem dX10_church_45 : decode cX10_church 45 = .ok (.getfield 47, 3) := by decide +kernel
theorem dX10_church_48 : decode cX10_church 48 = .ok (.iload_n 1, 1) := by decide +kernel
theorem dX10_church_49 : decode cX10_church 49 = .ok (.invokevirtual 208, 3) := by decide +kernel
theorem dX10_church_52 : decode cX10_church 52 = .ok (.ireturn, 1) := by decide +kernel
theorem dX10_church_53 : decode cX10_church 53 = .ok (.aload_n 0, 1) := by decide +kernel
theorem dX10_church_54 : decode cX10_church 54 = .ok (.getfield 40, 3) := by decide +kernel
theorem dX10_church_57 : decode cX10_church 57 = .ok (.aload_n 0, 1) := by decide +kernel
theorem dX10_church_58 : decode cX10_church 58 = .ok (.getfield 47, 3) := by decide +kernel
theorem dX10_church_61 : decode cX10_church 61 = .ok (.iload_n 1, 1) := by decide +kernel
theorem dX10_church_62 : decode cX10_church 62 = .ok (.aload_n 0, 1) := by decide +kernel
theorem dX10_church_63 : decode cX10_church 63 = .ok (.getfield 40, 3) := by decide +kernel
theorem dX10_church_66 : decode cX10_church 66 = .ok (.aload_n 0, 1) := by decide +kernel
theorem dX10_church_67 : decode cX10_church 67 = .ok (.getfield 47, 3) := by decide +kernel
theorem dX10_church_70 : decode cX10_church 70 = .ok (.invokevirtual 190, 3) := by decide +kernel
theorem dX10_church_73 : decode cX10_church 73 = .ok (.invokevirtual 211, 3) := by decide +kernel
theorem dX10_church_76 : decode cX10_church 76 = .ok (.ireturn, 1) := by decide +kernel
theorem dX10_church_77 : decode cX10_church 77 = .ok (.iconst (-1), 1) := by decide +kernel
theorem dX10_church_78 : decode cX10_church 78 = .ok (.ireturn, 1) := by decide +kernel
theorem dX10_sit_0 : decode cX10_sit 0 = .ok (.aload_n 0, 1) := by decide +kernel
theorem dX10_sit_1 : decode cX10_sit 1 = .ok (.getfield 10, 3) := by decide +kernel
theorem dX10_sit_4 : decode cX10_sit 4 = .ok (.iload_n 1, 1) := by decide +kernel
theorem dX10_sit_5 : decode cX10_sit 5 = .ok (.invokevirtual 122, 3) := by decide +kernel
theorem dX10_sit_8 : decode cX10_sit 8 = .ok (.ifCond .eq 14, 3) := by decide +kernel
theorem dX10_sit_11 : decode cX10_sit 11 = .ok (.aload_n 0, 1) := by decide +kernel
theorem dX10_sit_12 : decode cX10_sit 12 = .ok (.getfield 10, 3) := by decide +kernel
theorem dX10_sit_15 : decode cX10_sit 15 = .ok (.iload_n 2, 1) := by decide +kernel
theorem dX10_sit_16 : decode cX10_sit 16 = .ok (.invokevirtual 205, 3) := by decide +kernel
theorem dX10_sit_19 : decode cX10_sit 19 = .ok (.ifCond .ne 5, 3) := by decide +kernel
theorem dX10_sit_22 : decode cX10_sit 22 = .ok (.iconst (-1), 1) := by decide +kernel
theorem dX10_sit_23 : decode cX10_sit 23 = .ok (.ireturn, 1) := by decide +kernel
theorem dX10_sit_24 : decode cX10_sit 24 = .ok (.aload_n 0, 1) := by decide +kernel
theorem dX10_sit_25 : decode cX10_sit 25 = .ok (.getfield 47, 3) := by decide +kernel
theorem dX10_sit_28 : decode cX10_sit 28 = .ok (.iload_n 1, 1) := by decide +kernel
theorem dX10_sit_29 : decode cX10_sit 29 = .ok (.invokevirtual 125, 3) := by decide +kernel
theorem dX10_sit_32 : decode cX10_sit 32 = .ok (.istore_n 3, 1) := by decide +kernel
theorem dX10_sit_33 : decode cX10_sit 33 = .ok (.iload_n 3, 1) := by decide +kernel
theorem dX10_sit_34 : decode cX10_sit 34 = .ok (.iload_n 2, 1) := by decide +kernel
theorem dX10_sit_35 : decode cX10_sit 35 = .ok (.if_icmp .ne 5, 3) := by decide +kernel
theorem dX10_sit_38 : decode cX10_sit 38 = .ok (.iconst (-1), 1) := by decide +kernel
theorem dX10_sit_39 : decode cX10_sit 39 = .ok (.ireturn, 1) := by decide +kernel
theorem dX10_sit_40 : decode cX10_sit 40 = .ok (.aload_n 0, 1) := by decide +kernel
theorem dX10_sit_41 : decode cX10_sit 41 = .ok (.getfield 47, 3) := by decide +kernel
theorem dX10_sit_44 : decode cX10_sit 44 = .ok (.iload_n 1, 1) := by decide +kernel
theorem dX10_sit_45 : decode cX10_sit 45 = .ok (.iload_n 2, 1) := by decide +kernel
theorem dX10_sit_46 : decode cX10_sit 46 = .ok (.invokevirtual 214, 3) := by decide +kernel
theorem dX10_sit_49 : decode cX10_sit 49 = .ok (.aload_n 0, 1) := by decide +kernel
theorem dX10_sit_50 : decode cX10_sit 50 = .ok (.getfield 57, 3) := by decide +kernel
theorem dX10_sit_53 : decode cX10_sit 53 = .ok (.aload_n 0, 1) := by decide +kernel
theorem dX10_sit_54 : decode cX10_sit 54 = .ok (.getfield 47, 3) := by decide +kernel
theorem dX10_sit_57 : decode cX10_sit 57 = .ok (.invokevirtual 218, 3) := by decide +kernel
theorem dX10_sit_60 : decode cX10_sit 60 = .ok (.iload_n 3, 1) := by decide +kernel
theorem dX10_sit_61 : decode cX10_sit 61 = .ok (.ireturn, 1) := by decide +kernel
theorem dX10_move_0 : decode cX10_move 0 = .ok (.aload_n 0, 1) := by decide +kernel
theorem dX10_move_1 : decode cX10_move 1 = .ok (.iload_n 1, 1) := by decide +kernel
theorem dX10_move_2 : decode cX10_move 2 = .ok (.invokevirtual 222, 3) := by decide +kernel
theorem dX10_move_5 : decode cX10_move 5 = .ok (.ifCond .eq 25, 3) := by decide +kernel
theorem dX10_move_8 : decode cX10_move 8 = .ok (.aload_n 0, 1) := by decide +kernel
theorem dX10_move_9 : decode cX10_move 9 = .ok (.getfield 10, 3) := by decide +kernel
theorem dX10_move_12 : decode cX10_move 12 = .ok (.iload_n 2, 1) := by decide +kernel
theorem dX10_move_13 : decode cX10_move 13 = .ok (.invokevirtual 205, 3) := by decide +kernel
theorem dX10_move_16 : decode cX10_move 16 = .ok (.ifCond .eq 14, 3) := by decide +kernel
theorem dX10_move_19 : decode cX10_move 19 = .ok (.aload_n 0, 1) := by decide +kernel
theorem dX10_move_20 : decode cX10_move 20 = .ok (.getfield 10, 3) := by decide +kernel
theorem dX10_move_23 : decode cX10_move 23 = .ok (.iload_n 3, 1) := by decide +kernel
theorem dX10_move_24 : decode cX10_move 24 = .ok (.invokevirtual 205, 3) := by decide +kernel
theorem dX10_move_27 : decode cX10_move 27 = .ok (.ifCond .ne 5, 3) := by decide +kernel
theorem dX10_move_30 : decode cX10_move 30 = .ok (.iconst (-1), 1) := by decide +kernel
theorem dX10_move_31 : decode cX10_move 31 = .ok (.ireturn, 1) := by decide +kernel
theorem dX10_move_32 : decode cX10_move 32 = .ok (.aload_n 0, 1) := by decide +kernel
theorem dX10_move_33 : decode cX10_move 33 = .ok (.getfield 47, 3) := by decide +kernel
theorem dX10_move_36 : decode cX10_move 36 = .ok (.iload_n 1, 1) := by decide +kernel
theorem dX10_move_37 : decode cX10_move 37 = .ok (.iload_n 2, 1) := by decide +kernel
theorem dX10_move_38 : decode cX10_move 38 = .ok (.iload_n 3, 1) := by decide +kernel
theorem dX10_move_39 : decode cX10_move 39 = .ok (.invokevirtual 225, 3) := by decide +kernel
theorem dX10_move_42 : decode cX10_move 42 = .ok (.aload_n 0, 1) := by decide +kernel
theorem dX10_move_43 : decode cX10_move 43 = .ok (.getfield 57, 3) := by decide +kernel
theorem dX10_move_46 : decode cX10_move 46 = .ok (.aload_n 0, 1) := by decide +kernel
theorem dX10_move_47 : decode cX10_move 47 = .ok (.getfield 47, 3) := by decide +kernel
theorem dX10_move_50 : decode cX10_move 50 = .ok (.invokevirtual 218, 3) := by decide +kernel
theorem dX10_move_53 : decode cX10_move 53 = .ok (.aload_n 0, 1) := by decide +kernel
theorem dX10_move_54 : decode cX10_move 54 = .ok (.getfield 47, 3) := by decide +kernel
theorem dX10_move_57 : decode cX10_move 57 = .ok (.iload_n 1, 1) := by decide +kernel
theorem dX10_move_58 : decode cX10_move 58 = .ok (.invokevirtual 178, 3) := by decide +kernel
theorem dX10_move_61 : decode cX10_move 61 = .ok (.ireturn, 1) := by decide +kernel
theorem dX10_licence_0 : decode cX10_licence 0 = .ok (.aload_n 0, 1) := by decide +kernel
theorem dX10_licence_1 : decode cX10_licence 1 = .ok (.iload_n 1, 1) := by decide +kernel
theorem dX10_licence_2 : decode cX10_licence 2 = .ok (.invokevirtual 222, 3) := by decide +kernel
theorem dX10_licence_5 : decode cX10_licence 5 = .ok (.ifCond .eq 18, 3) := by decide +kernel
theorem dX10_licence_8 : decode cX10_licence 8 = .ok (.aload_n 0, 1) := by decide +kernel
theorem dX10_licence_9 : decode cX10_licence 9 = .ok (.getfield 40, 3) := by decide +kernel
theorem dX10_licence_12 : decode cX10_licence 12 = .ok (.aload_n 0, 1) := by decide +kernel
theorem dX10_licence_13 : decode cX10_licence 13 = .ok (.getfield 47, 3) := by decide +kernel
theorem dX10_licence_16 : decode cX10_licence 16 = .ok (.iload_n 1, 1) := by decide +kernel
theorem dX10_licence_17 : decode cX10_licence 17 = .ok (.invokevirtual 184, 3) := by decide +kernel
theorem dX10_licence_20 : decode cX10_licence 20 = .ok (.ifCond .eq 5, 3) := by decide +kernel
theorem dX10_licence_23 : decode cX10_licence 23 = .ok (.iconst 0, 1) := by decide +kernel
theorem dX10_licence_24 : decode cX10_licence 24 = .ok (.ireturn, 1) := by decide +kernel
theorem dX10_licence_25 : decode cX10_licence 25 = .ok (.aload_n 0, 1) := by decide +kernel
theorem dX10_licence_26 : decode cX10_licence 26 = .ok (.getfield 47, 3) := by decide +kernel
theorem dX10_licence_29 : decode cX10_licence 29 = .ok (.iload_n 1, 1) := by decide +kernel
theorem dX10_licence_30 : decode cX10_licence 30 = .ok (.iconst 1, 1) := by decide +kernel
theorem dX10_licence_31 : decode cX10_licence 31 = .ok (.invokevirtual 229, 3) := by decide +kernel
theorem dX10_licence_34 : decode cX10_licence 34 = .ok (.aload_n 0, 1) := by decide +kernel
theorem dX10_licence_35 : decode cX10_licence 35 = .ok (.getfield 57, 3) := by decide +kernel
theorem dX10_licence_38 : decode cX10_licence 38 = .ok (.aload_n 0, 1) := by decide +kernel
theorem dX10_licence_39 : decode cX10_licence 39 = .ok (.getfield 47, 3) := by decide +kernel
theorem dX10_licence_42 : decode cX10_licence 42 = .ok (.invokevirtual 218, 3) := by decide +kernel
theorem dX10_licence_45 : decode cX10_licence 45 = .ok (.iconst 1, 1) := by decide +kernel
theorem dX10_licence_46 : decode cX10_licence 46 = .ok (.ireturn, 1) := by decide +kernel
theorem dX10_sunday_0 : decode cX10_sunday 0 = .ok (.aload_n 0, 1) := by decide +kernel
theorem dX10_sunday_1 : decode cX10_sunday 1 = .ok (.getfield 47, 3) := by decide +kernel
theorem dX10_sunday_4 : decode cX10_sunday 4 = .ok (.invokevirtual 232, 3) := by decide +kernel
theorem dX10_sunday_7 : decode cX10_sunday 7 = .ok (.sipush 999, 3) := by decide +kernel
theorem dX10_sunday_10 : decode cX10_sunday 10 = .ok (.if_icmp .lt 5, 3) := by decide +kernel
theorem dX10_sunday_13 : decode cX10_sunday 13 = .ok (.iconst (-1), 1) := by decide +kernel
theorem dX10_sunday_14 : decode cX10_sunday 14 = .ok (.ireturn, 1) := by decide +kernel
theorem dX10_sunday_15 : decode cX10_sunday 15 = .ok (.aload_n 0, 1) := by decide +kernel
theorem dX10_sunday_16 : decode cX10_sunday 16 = .ok (.getfield 40, 3) := by decide +kernel
theorem dX10_sunday_19 : decode cX10_sunday 19 = .ok (.aload_n 0, 1) := by decide +kernel
theorem dX10_sunday_20 : decode cX10_sunday 20 = .ok (.getfield 47, 3) := by decide +kernel
theorem dX10_sunday_23 : decode cX10_sunday 23 = .ok (.invokevirtual 235, 3) := by decide +kernel
theorem dX10_sunday_26 : decode cX10_sunday 26 = .ok (.istore_n 1, 1) := by decide +kernel
theorem dX10_sunday_27 : decode cX10_sunday 27 = .ok (.aload_n 0, 1) := by decide +kernel
theorem dX10_sunday_28 : decode cX10_sunday 28 = .ok (.getfield 57, 3) := by decide +kernel
theorem dX10_sunday_31 : decode cX10_sunday 31 = .ok (.aload_n 0, 1) := by decide +kernel
theorem dX10_sunday_32 : decode cX10_sunday 32 = .ok (.getfield 47, 3) := by decide +kernel
theorem dX10_sunday_35 : decode cX10_sunday 35 = .ok (.invokevirtual 218, 3) := by decide +kernel
theorem dX10_sunday_38 : decode cX10_sunday 38 = .ok (.iload_n 1, 1) := by decide +kernel
theorem dX10_sunday_39 : decode cX10_sunday 39 = .ok (.ireturn, 1) := by decide +kernel
theorem dX10_undo_0 : decode cX10_undo 0 = .ok (.aload_n 0, 1) := by decide +kernel
theorem dX10_undo_1 : decode cX10_undo 1 = .ok (.getfield 57, 3) := by decide +kernel
theorem dX10_undo_4 : decode cX10_undo 4 = .ok (.aload_n 0, 1) := by decide +kernel
theorem dX10_undo_5 : decode cX10_undo 5 = .ok (.getfield 47, 3) := by decide +kernel
theorem dX10_undo_8 : decode cX10_undo 8 = .ok (.invokevirtual 238, 3) := by decide +kernel
theorem dX10_undo_11 : decode cX10_undo 11 = .ok (.ireturn, 1) := by decide +kernel
theorem dX10_redo_0 : decode cX10_redo 0 = .ok (.aload_n 0, 1) := by decide +kernel
theorem dX10_redo_1 : decode cX10_redo 1 = .ok (.getfield 57, 3) := by decide +kernel
theorem dX10_redo_4 : decode cX10_redo 4 = .ok (.aload_n 0, 1) := by decide +kernel
theorem dX10_redo_5 : decode cX10_redo 5 = .ok (.getfield 47, 3) := by decide +kernel
theorem dX10_redo_8 : decode cX10_redo 8 = .ok (.invokevirtual 242, 3) := by decide +kernel
theorem dX10_redo_11 : decode cX10_redo 11 = .ok (.ireturn, 1) := by decide +kernel
theorem dX10_quiet_0 : decode cX10_quiet 0 = .ok (.aload_n 0, 1) := by decide +kernel
theorem dX10_quiet_1 : decode cX10_quiet 1 = .ok (.iload_n 1, 1) := by decide +kernel
theorem dX10_quiet_2 : decode cX10_quiet 2 = .ok (.invokevirtual 222, 3) := by decide +kernel
theorem dX10_quiet_5 : decode cX10_quiet 5 = .ok (.ifCond .eq 36, 3) := by decide +kernel
theorem dX10_quiet_8 : decode cX10_quiet 8 = .ok (.aload_n 0, 1) := by decide +kernel
theorem dX10_quiet_9 : decode cX10_quiet 9 = .ok (.getfield 10, 3) := by decide +kernel
theorem dX10_quiet_12 : decode cX10_quiet 12 = .ok (.iload_n 2, 1) := by decide +kernel
theorem dX10_quiet_13 : decode cX10_quiet 13 = .ok (.invokevirtual 205, 3) := by decide +kernel
theorem dX10_quiet_16 : decode cX10_quiet 16 = .ok (.ifCond .eq 25, 3) := by decide +kernel
theorem dX10_quiet_19 : decode cX10_quiet 19 = .ok (.aload_n 0, 1) := by decide +kernel
theorem dX10_quiet_20 : decode cX10_quiet 20 = .ok (.getfield 10, 3) := by decide +kernel
theorem dX10_quiet_23 : decode cX10_quiet 23 = .ok (.iload_n 3, 1) := by decide +kernel
theorem dX10_quiet_24 : decode cX10_quiet 24 = .ok (.invokevirtual 205, 3) := by decide +kernel
theorem dX10_quiet_27 : decode cX10_quiet 27 = .ok (.ifCond .eq 14, 3) := by decide +kernel
theorem dX10_quiet_30 : decode cX10_quiet 30 = .ok (.iload 4, 2) := by decide +kernel
theorem dX10_quiet_32 : decode cX10_quiet 32 = .ok (.ifCond .lt 9, 3) := by decide +kernel
theorem dX10_quiet_35 : decode cX10_quiet 35 = .ok (.iload 4, 2) := by decide +kernel
theorem dX10_quiet_37 : decode cX10_quiet 37 = .ok (.iconst 1, 1) := by decide +kernel
theorem dX10_quiet_38 : decode cX10_quiet 38 = .ok (.if_icmp .le 5, 3) := by decide +kernel
theorem dX10_quiet_41 : decode cX10_quiet 41 = .ok (.iconst (-1), 1) := by decide +kernel
theorem dX10_quiet_42 : decode cX10_quiet 42 = .ok (.ireturn, 1) := by decide +kernel
theorem dX10_quiet_43 : decode cX10_quiet 43 = .ok (.aload_n 0, 1) := by decide +kernel
theorem dX10_quiet_44 : decode cX10_quiet 44 = .ok (.getfield 40, 3) := by decide +kernel
theorem dX10_quiet_47 : decode cX10_quiet 47 = .ok (.aload_n 0, 1) := by decide +kernel
theorem dX10_quiet_48 : decode cX10_quiet 48 = .ok (.getfield 47, 3) := by decide +kernel
theorem dX10_quiet_51 : decode cX10_quiet 51 = .ok (.iload_n 1, 1) := by decide +kernel
theorem dX10_quiet_52 : decode cX10_quiet 52 = .ok (.iload_n 2, 1) := by decide +kernel
theorem dX10_quiet_53 : decode cX10_quiet 53 = .ok (.iload_n 3, 1) := by decide +kernel
theorem dX10_quiet_54 : decode cX10_quiet 54 = .ok (.invokevirtual 245, 3) := by decide +kernel
theorem dX10_quiet_57 : decode cX10_quiet 57 = .ok (.istore 5, 2) := by decide +kernel
theorem dX10_quiet_59 : decode cX10_quiet 59 = .ok (.ldc 249, 2) := by decide +kernel
theorem dX10_quiet_61 : decode cX10_quiet 61 = .ok (.iload 5, 2) := by decide +kernel
theorem dX10_quiet_63 : decode cX10_quiet 63 = .ok (.invokestatic 250, 3) := by decide +kernel
theorem dX10_quiet_66 : decode cX10_quiet 66 = .ok (.istore 6, 2) := by decide +kernel
theorem dX10_quiet_68 : decode cX10_quiet 68 = .ok (.iload 6, 2) := by decide +kernel
theorem dX10_quiet_70 : decode cX10_quiet 70 = .ok (.iconst 1, 1) := by decide +kernel
theorem dX10_quiet_71 : decode cX10_quiet 71 = .ok (.if_icmp .ge 5, 3) := by decide +kernel
theorem dX10_quiet_74 : decode cX10_quiet 74 = .ok (.iconst (-1), 1) := by decide +kernel
theorem dX10_quiet_75 : decode cX10_quiet 75 = .ok (.ireturn, 1) := by decide +kernel
theorem dX10_quiet_76 : decode cX10_quiet 76 = .ok (.iload 4, 2) := by decide +kernel
theorem dX10_quiet_78 : decode cX10_quiet 78 = .ok (.ifCond .ne 8, 3) := by decide +kernel
theorem dX10_quiet_81 : decode cX10_quiet 81 = .ok (.iload 5, 2) := by decide +kernel
theorem dX10_quiet_83 : decode cX10_quiet 83 = .ok (.goto 5, 3) := by decide +kernel
theorem dX10_quiet_86 : decode cX10_quiet 86 = .ok (.ldc 249, 2) := by decide +kernel
theorem dX10_quiet_88 : decode cX10_quiet 88 = .ok (.iload 6, 2) := by decide +kernel
theorem dX10_quiet_90 : decode cX10_quiet 90 = .ok (.idiv, 1) := by decide +kernel
theorem dX10_quiet_91 : decode cX10_quiet 91 = .ok (.ireturn, 1) := by decide +kernel
theorem dX10_quietest_0 : decode cX10_quietest 0 = .ok (.aload_n 0, 1) := by decide +kernel
theorem dX10_quietest_1 : decode cX10_quietest 1 = .ok (.iload_n 1, 1) := by decide +kernel
theorem dX10_quietest_2 : decode cX10_quietest 2 = .ok (.invokevirtual 222, 3) := by decide +kernel
theorem dX10_quietest_5 : decode cX10_quietest 5 = .ok (.ifCond .eq 12, 3) := by decide +kernel
theorem dX10_quietest_8 : decode cX10_quietest 8 = .ok (.iload_n 2, 1) := by decide +kernel
theorem dX10_quietest_9 : decode cX10_quietest 9 = .ok (.ifCond .lt 8, 3) := by decide +kernel
theorem dX10_quietest_12 : decode cX10_quietest 12 = .ok (.iload_n 2, 1) := by decide +kernel
theorem dX10_quietest_13 : decode cX10_quietest 13 = .ok (.iconst 1, 1) := by decide +kernel
theorem dX10_quietest_14 : decode cX10_quietest 14 = .ok (.if_icmp .le 5, 3) := by decide +kernel
theorem dX10_quietest_17 : decode cX10_quietest 17 = .ok (.iconst (-1), 1) := by decide +kernel
theorem dX10_quietest_18 : decode cX10_quietest 18 = .ok (.ireturn, 1) := by decide +kernel
theorem dX10_quietest_19 : decode cX10_quietest 19 = .ok (.iconst (-1), 1) := by decide +kernel
theorem dX10_quietest_20 : decode cX10_quietest 20 = .ok (.istore_n 3, 1) := by decide +kernel
theorem dX10_quietest_21 : decode cX10_quietest 21 = .ok (.iconst (-1), 1) := by decide +kernel
theorem dX10_quietest_22 : decode cX10_quietest 22 = .ok (.istore 4, 2) := by decide +kernel
theorem dX10_quietest_24 : decode cX10_quietest 24 = .ok (.iconst 0, 1) := by decide +kernel
theorem dX10_quietest_25 : decode cX10_quietest 25 = .ok (.istore 5, 2) := by decide +kernel
theorem dX10_quietest_27 : decode cX10_quietest 27 = .ok (.iload 5, 2) := by decide +kernel
theorem dX10_quietest_29 : decode cX10_quietest 29 = .ok (.aload_n 0, 1) := by decide +kernel
theorem dX10_quietest_30 : decode cX10_quietest 30 = .ok (.getfield 10, 3) := by decide +kernel
theorem dX10_quietest_33 : decode cX10_quietest 33 = .ok (.getfield 253, 3) := by decide +kernel
theorem dX10_quietest_36 : decode cX10_quietest 36 = .ok (.if_icmp .ge 71, 3) := by decide +kernel
theorem dX10_quietest_39 : decode cX10_quietest 39 = .ok (.iload 5, 2) := by decide +kernel
theorem dX10_quietest_41 : decode cX10_quietest 41 = .ok (.istore 6, 2) := by decide +kernel
theorem dX10_quietest_43 : decode cX10_quietest 43 = .ok (.iload 6, 2) := by decide +kernel
theorem dX10_quietest_45 : decode cX10_quietest 45 = .ok (.aload_n 0, 1) := by decide +kernel
theorem dX10_quietest_46 : decode cX10_quietest 46 = .ok (.getfield 10, 3) := by decide +kernel
theorem dX10_quietest_49 : decode cX10_quietest 49 = .ok (.getfield 253, 3) := by decide +kernel
theorem dX10_quietest_52 : decode cX10_quietest 52 = .ok (.if_icmp .ge 49, 3) := by decide +kernel
theorem dX10_quietest_55 : decode cX10_quietest 55 = .ok (.aload_n 0, 1) := by decide +kernel
theorem dX10_quietest_56 : decode cX10_quietest 56 = .ok (.getfield 40, 3) := by decide +kernel
theorem dX10_quietest_59 : decode cX10_quietest 59 = .ok (.aload_n 0, 1) := by decide +kernel
theorem dX10_quietest_60 : decode cX10_quietest 60 = .ok (.getfield 47, 3) := by decide +kernel
theorem dX10_quietest_63 : decode cX10_quietest 63 = .ok (.iload_n 1, 1) := by decide +kernel
theorem dX10_quietest_64 : decode cX10_quietest 64 = .ok (.iload 5, 2) := by decide +kernel
theorem dX10_quietest_66 : decode cX10_quietest 66 = .ok (.iload 6, 2) := by decide +kernel
theorem dX10_quietest_68 : decode cX10_quietest 68 = .ok (.invokevirtual 245, 3) := by decide +kernel
theorem dX10_quietest_71 : decode cX10_quietest 71 = .ok (.istore 7, 2) := by decide +kernel
theorem dX10_quietest_73 : decode cX10_quietest 73 = .ok (.iload 7, 2) := by decide +kernel
theorem dX10_quietest_75 : decode cX10_quietest 75 = .ok (.iload_n 3, 1) := by decide +kernel
theorem dX10_quietest_76 : decode cX10_quietest 76 = .ok (.if_icmp .le 19, 3) := by decide +kernel
theorem dX10_quietest_79 : decode cX10_quietest 79 = .ok (.iload 7, 2) := by decide +kernel
theorem dX10_quietest_81 : decode cX10_quietest 81 = .ok (.istore_n 3, 1) := by decide +kernel
theorem dX10_quietest_82 : decode cX10_quietest 82 = .ok (.iload_n 2, 1) := by decide +kernel
theorem dX10_quietest_83 : decode cX10_quietest 83 = .ok (.ifCond .ne 8, 3) := by decide +kernel
theorem dX10_quietest_86 : decode cX10_quietest 86 = .ok (.iload 5, 2) := by decide +kernel
theorem dX10_quietest_88 : decode cX10_quietest 88 = .ok (.goto 5, 3) := by decide +kernel
theorem dX10_quietest_91 : decode cX10_quietest 91 = .ok (.iload 6, 2) := by decide +kernel
theorem dX10_quietest_93 : decode cX10_quietest 93 = .ok (.istore 4, 2) := by decide +kernel
theorem dX10_quietest_95 : decode cX10_quietest 95 = .ok (.iinc 6 1, 3) := by decide +kernel
theorem dX10_quietest_98 : decode cX10_quietest 98 = .ok (.goto (-55), 3) := by decide +kernel
theorem dX10_quietest_101 : decode cX10_quietest 101 = .ok (.iinc 5 1, 3) := by decide +kernel
theorem dX10_quietest_104 : decode cX10_quietest 104 = .ok (.goto (-77), 3) := by decide +kernel
theorem dX10_quietest_107 : decode cX10_quietest 107 = .ok (.iload 4, 2) := by decide +kernel
theorem dX10_quietest_109 : decode cX10_quietest 109 = .ok (.ireturn, 1) := by decide +kernel
theorem dX10_hush_0 : decode cX10_hush 0 = .ok (.aload_n 0, 1) := by decide +kernel
theorem dX10_hush_1 : decode cX10_hush 1 = .ok (.iload_n 1, 1) := by decide +kernel
theorem dX10_hush_2 : decode cX10_hush 2 = .ok (.invokevirtual 222, 3) := by decide +kernel
theorem dX10_hush_5 : decode cX10_hush 5 = .ok (.ifCond .eq 12, 3) := by decide +kernel
theorem dX10_hush_8 : decode cX10_hush 8 = .ok (.iload_n 2, 1) := by decide +kernel
theorem dX10_hush_9 : decode cX10_hush 9 = .ok (.ifCond .lt 8, 3) := by decide +kernel
theorem dX10_hush_12 : decode cX10_hush 12 = .ok (.iload_n 2, 1) := by decide +kernel
theorem dX10_hush_13 : decode cX10_hush 13 = .ok (.iconst 1, 1) := by decide +kernel
theorem dX10_hush_14 : decode cX10_hush 14 = .ok (.if_icmp .le 5, 3) := by decide +kernel
theorem dX10_hush_17 : decode cX10_hush 17 = .ok (.iconst (-1), 1) := by decide +kernel
theorem dX10_hush_18 : decode cX10_hush 18 = .ok (.ireturn, 1) := by decide +kernel
theorem dX10_hush_19 : decode cX10_hush 19 = .ok (.aload_n 0, 1) := by decide +kernel
theorem dX10_hush_20 : decode cX10_hush 20 = .ok (.getfield 40, 3) := by decide +kernel
theorem dX10_hush_23 : decode cX10_hush 23 = .ok (.aload_n 0, 1) := by decide +kernel
theorem dX10_hush_24 : decode cX10_hush 24 = .ok (.getfield 47, 3) := by decide +kernel
theorem dX10_hush_27 : decode cX10_hush 27 = .ok (.iload_n 1, 1) := by decide +kernel
theorem dX10_hush_28 : decode cX10_hush 28 = .ok (.invokevirtual 256, 3) := by decide +kernel
theorem dX10_hush_31 : decode cX10_hush 31 = .ok (.istore_n 3, 1) := by decide +kernel
theorem dX10_hush_32 : decode cX10_hush 32 = .ok (.iload_n 2, 1) := by decide +kernel
theorem dX10_hush_33 : decode cX10_hush 33 = .ok (.ifCond .ne 10, 3) := by decide +kernel
theorem dX10_hush_36 : decode cX10_hush 36 = .ok (.iload_n 3, 1) := by decide +kernel
theorem dX10_hush_37 : decode cX10_hush 37 = .ok (.invokestatic 259, 3) := by decide +kernel
theorem dX10_hush_40 : decode cX10_hush 40 = .ok (.goto 4, 3) := by decide +kernel
theorem dX10_hush_43 : decode cX10_hush 43 = .ok (.iload_n 3, 1) := by decide +kernel
theorem dX10_hush_44 : decode cX10_hush 44 = .ok (.ireturn, 1) := by decide +kernel
theorem dX10_will_0 : decode cX10_will 0 = .ok (.aload_n 0, 1) := by decide +kernel
theorem dX10_will_1 : decode cX10_will 1 = .ok (.getfield 10, 3) := by decide +kernel
theorem dX10_will_4 : decode cX10_will 4 = .ok (.iload_n 1, 1) := by decide +kernel
theorem dX10_will_5 : decode cX10_will 5 = .ok (.invokevirtual 163, 3) := by decide +kernel
theorem dX10_will_8 : decode cX10_will 8 = .ok (.ifCond .eq 22, 3) := by decide +kernel
theorem dX10_will_11 : decode cX10_will 11 = .ok (.iload_n 2, 1) := by decide +kernel
theorem dX10_will_12 : decode cX10_will 12 = .ok (.ifCond .lt 18, 3) := by decide +kernel
theorem dX10_will_15 : decode cX10_will 15 = .ok (.iload_n 2, 1) := by decide +kernel
theorem dX10_will_16 : decode cX10_will 16 = .ok (.bipush 60, 2) := by decide +kernel
theorem dX10_will_18 : decode cX10_will 18 = .ok (.if_icmp .gt 12, 3) := by decide +kernel
theorem dX10_will_21 : decode cX10_will 21 = .ok (.iload_n 3, 1) := by decide +kernel
theorem dX10_will_22 : decode cX10_will 22 = .ok (.ifCond .lt 8, 3) := by decide +kernel
theorem dX10_will_25 : decode cX10_will 25 = .ok (.iload_n 3, 1) := by decide +kernel
theorem dX10_will_26 : decode cX10_will 26 = .ok (.iconst 1, 1) := by decide +kernel
theorem dX10_will_27 : decode cX10_will 27 = .ok (.if_icmp .le 5, 3) := by decide +kernel
theorem dX10_will_30 : decode cX10_will 30 = .ok (.iconst (-1), 1) := by decide +kernel
theorem dX10_will_31 : decode cX10_will 31 = .ok (.ireturn, 1) := by decide +kernel
theorem dX10_will_32 : decode cX10_will 32 = .ok (.aload_n 0, 1) := by decide +kernel
theorem dX10_will_33 : decode cX10_will 33 = .ok (.getfield 51, 3) := by decide +kernel
theorem dX10_will_36 : decode cX10_will 36 = .ok (.aload_n 0, 1) := by decide +kernel
theorem dX10_will_37 : decode cX10_will 37 = .ok (.getfield 47, 3) := by decide +kernel
theorem dX10_will_40 : decode cX10_will 40 = .ok (.invokevirtual 264, 3) := by decide +kernel
theorem dX10_will_43 : decode cX10_will 43 = .ok (.iconst 0, 1) := by decide +kernel
theorem dX10_will_44 : decode cX10_will 44 = .ok (.istore 4, 2) := by decide +kernel
theorem dX10_will_46 : decode cX10_will 46 = .ok (.iload 4, 2) := by decide +kernel
theorem dX10_will_48 : decode cX10_will 48 = .ok (.iload_n 2, 1) := by decide +kernel
theorem dX10_will_49 : decode cX10_will 49 = .ok (.if_icmp .ge 21, 3) := by decide +kernel
theorem dX10_will_52 : decode cX10_will 52 = .ok (.aload_n 0, 1) := by decide +kernel
theorem dX10_will_53 : decode cX10_will 53 = .ok (.getfield 40, 3) := by decide +kernel
theorem dX10_will_56 : decode cX10_will 56 = .ok (.aload_n 0, 1) := by decide +kernel
theorem dX10_will_57 : decode cX10_will 57 = .ok (.getfield 51, 3) := by decide +kernel
theorem dX10_will_60 : decode cX10_will 60 = .ok (.invokevirtual 235, 3) := by decide +kernel
theorem dX10_will_63 : decode cX10_will 63 = .ok (.pop, 1) := by decide +kernel
theorem dX10_will_64 : decode cX10_will 64 = .ok (.iinc 4 1, 3) := by decide +kernel
theorem dX10_will_67 : decode cX10_will 67 = .ok (.goto (-21), 3) := by decide +kernel
theorem dX10_will_70 : decode cX10_will 70 = .ok (.iload_n 3, 1) := by decide +kernel
theorem dX10_will_71 : decode cX10_will 71 = .ok (.ifCond .ne 14, 3) := by decide +kernel
theorem dX10_will_74 : decode cX10_will 74 = .ok (.aload_n 0, 1) := by decide +kernel
theorem dX10_will_75 : decode cX10_will 75 = .ok (.getfield 51, 3) := by decide +kernel
theorem dX10_will_78 : decode cX10_will 78 = .ok (.iload_n 1, 1) := by decide +kernel
theorem dX10_will_79 : decode cX10_will 79 = .ok (.invokevirtual 181, 3) := by decide +kernel
theorem dX10_will_82 : decode cX10_will 82 = .ok (.goto 11, 3) := by decide +kernel
theorem dX10_will_85 : decode cX10_will 85 = .ok (.aload_n 0, 1) := by decide +kernel
theorem dX10_will_86 : decode cX10_will 86 = .ok (.getfield 51, 3) := by decide +kernel
theorem dX10_will_89 : decode cX10_will 89 = .ok (.iload_n 1, 1) := by decide +kernel
theorem dX10_will_90 : decode cX10_will 90 = .ok (.invokevirtual 178, 3) := by decide +kernel
theorem dX10_will_93 : decode cX10_will 93 = .ok (.ireturn, 1) := by decide +kernel
theorem dX10_settles_0 : decode cX10_settles 0 = .ok (.aload_n 0, 1) := by decide +kernel
theorem dX10_settles_1 : decode cX10_settles 1 = .ok (.getfield 10, 3) := by decide +kernel
theorem dX10_settles_4 : decode cX10_settles 4 = .ok (.iload_n 1, 1) := by decide +kernel
theorem dX10_settles_5 : decode cX10_settles 5 = .ok (.invokevirtual 163, 3) := by decide +kernel
theorem dX10_settles_8 : decode cX10_settles 8 = .ok (.ifCond .ne 5, 3) := by decide +kernel
theorem dX10_settles_11 : decode cX10_settles 11 = .ok (.iconst (-1), 1) := by decide +kernel
theorem dX10_settles_12 : decode cX10_settles 12 = .ok (.ireturn, 1) := by decide +kernel
theorem dX10_settles_13 : decode cX10_settles 13 = .ok (.aload_n 0, 1) := by decide +kernel
theorem dX10_settles_14 : decode cX10_settles 14 = .ok (.getfield 51, 3) := by decide +kernel
theorem dX10_settles_17 : decode cX10_settles 17 = .ok (.aload_n 0, 1) := by decide +kernel
theorem dX10_settles_18 : decode cX10_settles 18 = .ok (.getfield 47, 3) := by decide +kernel
theorem dX10_settles_21 : decode cX10_settles 21 = .ok (.invokevirtual 264, 3) := by decide +kernel
theorem dX10_settles_24 : decode cX10_settles 24 = .ok (.iconst 0, 1) := by decide +kernel
theorem dX10_settles_25 : decode cX10_settles 25 = .ok (.istore_n 2, 1) := by decide +kernel
theorem dX10_settles_26 : decode cX10_settles 26 = .ok (.iload_n 2, 1) := by decide +kernel
theorem dX10_settles_27 : decode cX10_settles 27 = .ok (.bipush 60, 2) := by decide +kernel
theorem dX10_settles_29 : decode cX10_settles 29 = .ok (.if_icmp .gt 34, 3) := by decide +kernel
theorem dX10_settles_32 : decode cX10_settles 32 = .ok (.aload_n 0, 1) := by decide +kernel
theorem dX10_settles_33 : decode cX10_settles 33 = .ok (.getfield 51, 3) := by decide +kernel
theorem dX10_settles_36 : decode cX10_settles 36 = .ok (.iload_n 1, 1) := by decide +kernel
theorem dX10_settles_37 : decode cX10_settles 37 = .ok (.invokevirtual 181, 3) := by decide +kernel
theorem dX10_settles_40 : decode cX10_settles 40 = .ok (.ifCond .eq 5, 3) := by decide +kernel
theorem dX10_settles_43 : decode cX10_settles 43 = .ok (.iload_n 2, 1) := by decide +kernel
theorem dX10_settles_44 : decode cX10_settles 44 = .ok (.ireturn, 1) := by decide +kernel
theorem dX10_settles_45 : decode cX10_settles 45 = .ok (.aload_n 0, 1) := by decide +kernel
theorem dX10_settles_46 : decode cX10_settles 46 = .ok (.getfield 40, 3) := by decide +kernel
theorem dX10_settles_49 : decode cX10_settles 49 = .ok (.aload_n 0, 1) := by decide +kernel
theorem dX10_settles_50 : decode cX10_settles 50 = .ok (.getfield 51, 3) := by decide +kernel
theorem dX10_settles_53 : decode cX10_settles 53 = .ok (.invokevirtual 235, 3) := by decide +kernel
theorem dX10_settles_56 : decode cX10_settles 56 = .ok (.pop, 1) := by decide +kernel
theorem dX10_settles_57 : decode cX10_settles 57 = .ok (.iinc 2 1, 3) := by decide +kernel
theorem dX10_settles_60 : decode cX10_settles 60 = .ok (.goto (-34), 3) := by decide +kernel
theorem dX10_settles_63 : decode cX10_settles 63 = .ok (.iconst (-1), 1) := by decide +kernel
theorem dX10_settles_64 : decode cX10_settles 64 = .ok (.ireturn, 1) := by decide +kernel
theorem dX10_season_0 : decode cX10_season 0 = .ok (.iload_n 1, 1) := by decide +kernel
theorem dX10_season_1 : decode cX10_season 1 = .ok (.ifCond .lt 8, 3) := by decide +kernel
theorem dX10_season_4 : decode cX10_season 4 = .ok (.iload_n 1, 1) := by decide +kernel
theorem dX10_season_5 : decode cX10_season 5 = .ok (.iconst 1, 1) := by decide +kernel
theorem dX10_season_6 : decode cX10_season 6 = .ok (.if_icmp .le 5, 3) := by decide +kernel
theorem dX10_season_9 : decode cX10_season 9 = .ok (.iconst (-1), 1) := by decide +kernel
theorem dX10_season_10 : decode cX10_season 10 = .ok (.ireturn, 1) := by decide +kernel
theorem dX10_season_11 : decode cX10_season 11 = .ok (.aload_n 0, 1) := by decide +kernel
theorem dX10_season_12 : decode cX10_season 12 = .ok (.getfield 68, 3) := by decide +kernel
theorem dX10_season_15 : decode cX10_season 15 = .ok (.aload_n 0, 1) := by decide +kernel
theorem dX10_season_16 : decode cX10_season 16 = .ok (.getfield 10, 3) := by decide +kernel
theorem dX10_season_19 : decode cX10_season 19 = .ok (.aload_n 0, 1) := by decide +kernel
theorem dX10_season_20 : decode cX10_season 20 = .ok (.getfield 47, 3) := by decide +kernel
theorem dX10_season_23 : decode cX10_season 23 = .ok (.invokevirtual 267, 3) := by decide +kernel
theorem dX10_season_26 : decode cX10_season 26 = .ok (.istore_n 2, 1) := by decide +kernel
theorem dX10_season_27 : decode cX10_season 27 = .ok (.iload_n 1, 1) := by decide +kernel
theorem dX10_season_28 : decode cX10_season 28 = .ok (.ifCond .ne 10, 3) := by decide +kernel
theorem dX10_season_31 : decode cX10_season 31 = .ok (.iload_n 2, 1) := by decide +kernel
theorem dX10_season_32 : decode cX10_season 32 = .ok (.invokestatic 259, 3) := by decide +kernel
theorem dX10_season_35 : decode cX10_season 35 = .ok (.goto 4, 3) := by decide +kernel
theorem dX10_season_38 : decode cX10_season 38 = .ok (.iload_n 2, 1) := by decide +kernel
theorem dX10_season_39 : decode cX10_season 39 = .ok (.ireturn, 1) := by decide +kernel
theorem dX10_law_0 : decode cX10_law 0 = .ok (.iload_n 1, 1) := by decide +kernel
theorem dX10_law_1 : decode cX10_law 1 = .ok (.ifCond .lt 9, 3) := by decide +kernel
theorem dX10_law_4 : decode cX10_law 4 = .ok (.iload_n 1, 1) := by decide +kernel
theorem dX10_law_5 : decode cX10_law 5 = .ok (.bipush 8, 2) := by decide +kernel
theorem dX10_law_7 : decode cX10_law 7 = .ok (.if_icmp .le 6, 3) := by decide +kernel
theorem dX10_law_10 : decode cX10_law 10 = .ok (.bipush (-100), 2) := by decide +kernel
theorem dX10_law_12 : decode cX10_law 12 = .ok (.ireturn, 1) := by decide +kernel
theorem dX10_law_13 : decode cX10_law 13 = .ok (.aload_n 0, 1) := by decide +kernel
theorem dX10_law_14 : decode cX10_law 14 = .ok (.iload_n 1, 1) := by decide +kernel
theorem dX10_law_15 : decode cX10_law 15 = .ok (.invokevirtual 271, 3) := by decide +kernel
theorem dX10_law_18 : decode cX10_law 18 = .ok (.aload_n 0, 1) := by decide +kernel
theorem dX10_law_19 : decode cX10_law 19 = .ok (.aload_n 0, 1) := by decide +kernel
theorem dX10_law_20 : decode cX10_law 20 = .ok (.getfield 10, 3) := by decide +kernel
theorem dX10_law_23 : decode cX10_law 23 = .ok (.getfield 274, 3) := by decide +kernel
theorem dX10_law_26 : decode cX10_law 26 = .ok (.invokevirtual 271, 3) := by decide +kernel
theorem dX10_law_29 : decode cX10_law 29 = .ok (.isub, 1) := by decide +kernel
theorem dX10_law_30 : decode cX10_law 30 = .ok (.ireturn, 1) := by decide +kernel
theorem dX10_free_0 : decode cX10_free 0 = .ok (.iconst 0, 1) := by decide +kernel
theorem dX10_free_1 : decode cX10_free 1 = .ok (.istore_n 1, 1) := by decide +kernel
theorem dX10_free_2 : decode cX10_free 2 = .ok (.iconst 0, 1) := by decide +kernel
theorem dX10_free_3 : decode cX10_free 3 = .ok (.istore_n 2, 1) := by decide +kernel
theorem dX10_free_4 : decode cX10_free 4 = .ok (.iload_n 2, 1) := by decide +kernel
theorem dX10_free_5 : decode cX10_free 5 = .ok (.aload_n 0, 1) := by decide +kernel
theorem dX10_free_6 : decode cX10_free 6 = .ok (.getfield 10, 3) := by decide +kernel
theorem dX10_free_9 : decode cX10_free 9 = .ok (.getfield 108, 3) := by decide +kernel
theorem dX10_free_12 : decode cX10_free 12 = .ok (.if_icmp .ge 50, 3) := by decide +kernel
theorem dX10_free_15 : decode cX10_free 15 = .ok (.iload_n 2, 1) := by decide +kernel
theorem dX10_free_16 : decode cX10_free 16 = .ok (.iconst 1, 1) := by decide +kernel
theorem dX10_free_17 : decode cX10_free 17 = .ok (.iadd, 1) := by decide +kernel
theorem dX10_free_18 : decode cX10_free 18 = .ok (.istore_n 3, 1) := by decide +kernel
theorem dX10_free_19 : decode cX10_free 19 = .ok (.iload_n 3, 1) := by decide +kernel
theorem dX10_free_20 : decode cX10_free 20 = .ok (.aload_n 0, 1) := by decide +kernel
theorem dX10_free_21 : decode cX10_free 21 = .ok (.getfield 10, 3) := by decide +kernel
theorem dX10_free_24 : decode cX10_free 24 = .ok (.getfield 108, 3) := by decide +kernel
theorem dX10_free_27 : decode cX10_free 27 = .ok (.if_icmp .ge 29, 3) := by decide +kernel
theorem dX10_free_30 : decode cX10_free 30 = .ok (.aload_n 0, 1) := by decide +kernel
theorem dX10_free_31 : decode cX10_free 31 = .ok (.getfield 40, 3) := by decide +kernel
theorem dX10_free_34 : decode cX10_free 34 = .ok (.aload_n 0, 1) := by decide +kernel
theorem dX10_free_35 : decode cX10_free 35 = .ok (.getfield 47, 3) := by decide +kernel
theorem dX10_free_38 : decode cX10_free 38 = .ok (.iload_n 2, 1) := by decide +kernel
theorem dX10_free_39 : decode cX10_free 39 = .ok (.iload_n 3, 1) := by decide +kernel
theorem dX10_free_40 : decode cX10_free 40 = .ok (.iconst (-1), 1) := by decide +kernel
theorem dX10_free_41 : decode cX10_free 41 = .ok (.invokevirtual 277, 3) := by decide +kernel
theorem dX10_free_44 : decode cX10_free 44 = .ok (.ifCond .ne 6, 3) := by decide +kernel
theorem dX10_free_47 : decode cX10_free 47 = .ok (.iinc 1 1, 3) := by decide +kernel
theorem dX10_free_50 : decode cX10_free 50 = .ok (.iinc 3 1, 3) := by decide +kernel
theorem dX10_free_53 : decode cX10_free 53 = .ok (.goto (-34), 3) := by decide +kernel
theorem dX10_free_56 : decode cX10_free 56 = .ok (.iinc 2 1, 3) := by decide +kernel
theorem dX10_free_59 : decode cX10_free 59 = .ok (.goto (-55), 3) := by decide +kernel
theorem dX10_free_62 : decode cX10_free 62 = .ok (.iload_n 1, 1) := by decide +kernel
theorem dX10_free_63 : decode cX10_free 63 = .ok (.ireturn, 1) := by decide +kernel
theorem dX10_sits_0 : decode cX10_sits 0 = .ok (.aload_n 0, 1) := by decide +kernel
theorem dX10_sits_1 : decode cX10_sits 1 = .ok (.getfield 10, 3) := by decide +kernel
theorem dX10_sits_4 : decode cX10_sits 4 = .ok (.iload_n 1, 1) := by decide +kernel
theorem dX10_sits_5 : decode cX10_sits 5 = .ok (.invokevirtual 205, 3) := by decide +kernel
theorem dX10_sits_8 : decode cX10_sits 8 = .ok (.ifCond .eq 17, 3) := by decide +kernel
theorem dX10_sits_11 : decode cX10_sits 11 = .ok (.aload_n 0, 1) := by decide +kernel
theorem dX10_sits_12 : decode cX10_sits 12 = .ok (.getfield 75, 3) := by decide +kernel
theorem dX10_sits_15 : decode cX10_sits 15 = .ok (.iconst 0, 1) := by decide +kernel
theorem dX10_sits_16 : decode cX10_sits 16 = .ok (.iload_n 1, 1) := by decide +kernel
theorem dX10_sits_17 : decode cX10_sits 17 = .ok (.iconst 0, 1) := by decide +kernel
theorem dX10_sits_18 : decode cX10_sits 18 = .ok (.iload_n 2, 1) := by decide +kernel
theorem dX10_sits_19 : decode cX10_sits 19 = .ok (.invokevirtual 280, 3) := by decide +kernel
theorem dX10_sits_22 : decode cX10_sits 22 = .ok (.goto 4, 3) := by decide +kernel
theorem dX10_sits_25 : decode cX10_sits 25 = .ok (.iconst (-1), 1) := by decide +kernel
theorem dX10_sits_26 : decode cX10_sits 26 = .ok (.ireturn, 1) := by decide +kernel
theorem dX10_knew_0 : decode cX10_knew 0 = .ok (.aload_n 0, 1) := by decide +kernel
theorem dX10_knew_1 : decode cX10_knew 1 = .ok (.getfield 10, 3) := by decide +kernel
theorem dX10_knew_4 : decode cX10_knew 4 = .ok (.iload_n 1, 1) := by decide +kernel
theorem dX10_knew_5 : decode cX10_knew 5 = .ok (.invokevirtual 122, 3) := by decide +kernel
theorem dX10_knew_8 : decode cX10_knew 8 = .ok (.ifCond .eq 17, 3) := by decide +kernel
theorem dX10_knew_11 : decode cX10_knew 11 = .ok (.aload_n 0, 1) := by decide +kernel
theorem dX10_knew_12 : decode cX10_knew 12 = .ok (.getfield 75, 3) := by decide +kernel
theorem dX10_knew_15 : decode cX10_knew 15 = .ok (.iconst 1, 1) := by decide +kernel
theorem dX10_knew_16 : decode cX10_knew 16 = .ok (.iload_n 1, 1) := by decide +kernel
theorem dX10_knew_17 : decode cX10_knew 17 = .ok (.iconst 0, 1) := by decide +kernel
theorem dX10_knew_18 : decode cX10_knew 18 = .ok (.iload_n 2, 1) := by decide +kernel
theorem dX10_knew_19 : decode cX10_knew 19 = .ok (.invokevirtual 280, 3) := by decide +kernel
theorem dX10_knew_22 : decode cX10_knew 22 = .ok (.goto 4, 3) := by decide +kernel
theorem dX10_knew_25 : decode cX10_knew 25 = .ok (.iconst (-1), 1) := by decide +kernel
theorem dX10_knew_26 : decode cX10_knew 26 = .ok (.ireturn, 1) := by decide +kernel
theorem dX10_kin_0 : decode cX10_kin 0 = .ok (.aload_n 0, 1) := by decide +kernel
theorem dX10_kin_1 : decode cX10_kin 1 = .ok (.getfield 10, 3) := by decide +kernel
theorem dX10_kin_4 : decode cX10_kin 4 = .ok (.iload_n 1, 1) := by decide +kernel
theorem dX10_kin_5 : decode cX10_kin 5 = .ok (.invokevirtual 122, 3) := by decide +kernel
theorem dX10_kin_8 : decode cX10_kin 8 = .ok (.ifCond .eq 13, 3) := by decide +kernel
theorem dX10_kin_11 : decode cX10_kin 11 = .ok (.iload_n 2, 1) := by decide +kernel
theorem dX10_kin_12 : decode cX10_kin 12 = .ok (.ifCond .lt 9, 3) := by decide +kernel
theorem dX10_kin_15 : decode cX10_kin 15 = .ok (.iload_n 2, 1) := by decide +kernel
theorem dX10_kin_16 : decode cX10_kin 16 = .ok (.bipush 8, 2) := by decide +kernel
theorem dX10_kin_18 : decode cX10_kin 18 = .ok (.if_icmp .le 5, 3) := by decide +kernel
theorem dX10_kin_21 : decode cX10_kin 21 = .ok (.iconst (-1), 1) := by decide +kernel
theorem dX10_kin_22 : decode cX10_kin 22 = .ok (.ireturn, 1) := by decide +kernel
theorem dX10_kin_23 : decode cX10_kin 23 = .ok (.aload_n 0, 1) := by decide +kernel
theorem dX10_kin_24 : decode cX10_kin 24 = .ok (.getfield 75, 3) := by decide +kernel
theorem dX10_kin_27 : decode cX10_kin 27 = .ok (.iconst 2, 1) := by decide +kernel
theorem dX10_kin_28 : decode cX10_kin 28 = .ok (.iload_n 1, 1) := by decide +kernel
theorem dX10_kin_29 : decode cX10_kin 29 = .ok (.iload_n 2, 1) := by decide +kernel
theorem dX10_kin_30 : decode cX10_kin 30 = .ok (.iload_n 3, 1) := by decide +kernel
theorem dX10_kin_31 : decode cX10_kin 31 = .ok (.invokevirtual 280, 3) := by decide +kernel
theorem dX10_kin_34 : decode cX10_kin 34 = .ok (.ireturn, 1) := by decide +kernel
theorem dX10_untell_0 : decode cX10_untell 0 = .ok (.aload_n 0, 1) := by decide +kernel
theorem dX10_untell_1 : decode cX10_untell 1 = .ok (.getfield 75, 3) := by decide +kernel
theorem dX10_untell_4 : decode cX10_untell 4 = .ok (.iload_n 1, 1) := by decide +kernel
theorem dX10_untell_5 : decode cX10_untell 5 = .ok (.invokevirtual 284, 3) := by decide +kernel
theorem dX10_untell_8 : decode cX10_untell 8 = .ok (.ireturn, 1) := by decide +kernel
theorem dX10_later_0 : decode cX10_later 0 = .ok (.aload_n 0, 1) := by decide +kernel
theorem dX10_later_1 : decode cX10_later 1 = .ok (.getfield 75, 3) := by decide +kernel
theorem dX10_later_4 : decode cX10_later 4 = .ok (.iload_n 1, 1) := by decide +kernel
theorem dX10_later_5 : decode cX10_later 5 = .ok (.invokevirtual 287, 3) := by decide +kernel
theorem dX10_later_8 : decode cX10_later 8 = .ok (.ireturn, 1) := by decide +kernel
theorem dX10_meant_0 : decode cX10_meant 0 = .ok (.aload_n 0, 1) := by decide +kernel
theorem dX10_meant_1 : decode cX10_meant 1 = .ok (.getfield 75, 3) := by decide +kernel
theorem dX10_meant_4 : decode cX10_meant 4 = .ok (.aload_n 0, 1) := by decide +kernel
theorem dX10_meant_5 : decode cX10_meant 5 = .ok (.getfield 10, 3) := by decide +kernel
theorem dX10_meant_8 : decode cX10_meant 8 = .ok (.aload_n 0, 1) := by decide +kernel
theorem dX10_meant_9 : decode cX10_meant 9 = .ok (.getfield 47, 3) := by decide +kernel
theorem dX10_meant_12 : decode cX10_meant 12 = .ok (.iload_n 1, 1) := by decide +kernel
theorem dX10_meant_13 : decode cX10_meant 13 = .ok (.invokevirtual 290, 3) := by decide +kernel
theorem dX10_meant_16 : decode cX10_meant 16 = .ok (.ireturn, 1) := by decide +kernel
theorem dX10_ask_0 : decode cX10_ask 0 = .ok (.aload_n 0, 1) := by decide +kernel
theorem dX10_ask_1 : decode cX10_ask 1 = .ok (.getfield 75, 3) := by decide +kernel
theorem dX10_ask_4 : decode cX10_ask 4 = .ok (.aload_n 0, 1) := by decide +kernel
theorem dX10_ask_5 : decode cX10_ask 5 = .ok (.getfield 10, 3) := by decide +kernel
theorem dX10_ask_8 : decode cX10_ask 8 = .ok (.aload_n 0, 1) := by decide +kernel
theorem dX10_ask_9 : decode cX10_ask 9 = .ok (.getfield 47, 3) := by decide +kernel
theorem dX10_ask_12 : decode cX10_ask 12 = .ok (.iload_n 2, 1) := by decide +kernel
theorem dX10_ask_13 : decode cX10_ask 13 = .ok (.invokevirtual 290, 3) := by decide +kernel
theorem dX10_ask_16 : decode cX10_ask 16 = .ok (.istore_n 3, 1) := by decide +kernel
theorem dX10_ask_17 : decode cX10_ask 17 = .ok (.iload_n 3, 1) := by decide +kernel
theorem dX10_ask_18 : decode cX10_ask 18 = .ok (.ifCond .eq 12, 3) := by decide +kernel
theorem dX10_ask_21 : decode cX10_ask 21 = .ok (.iload_n 1, 1) := by decide +kernel
theorem dX10_ask_22 : decode cX10_ask 22 = .ok (.ifCond .lt 8, 3) := by decide +kernel
theorem dX10_ask_25 : decode cX10_ask 25 = .ok (.iload_n 1, 1) := by decide +kernel
theorem dX10_ask_26 : decode cX10_ask 26 = .ok (.iconst 1, 1) := by decide +kernel
theorem dX10_ask_27 : decode cX10_ask 27 = .ok (.if_icmp .le 5, 3) := by decide +kernel
theorem dX10_ask_30 : decode cX10_ask 30 = .ok (.iconst (-1), 1) := by decide +kernel
theorem dX10_ask_31 : decode cX10_ask 31 = .ok (.ireturn, 1) := by decide +kernel
theorem dX10_ask_32 : decode cX10_ask 32 = .ok (.iconst (-1), 1) := by decide +kernel
theorem dX10_ask_33 : decode cX10_ask 33 = .ok (.istore 4, 2) := by decide +kernel
theorem dX10_ask_35 : decode cX10_ask 35 = .ok (.bipush 9, 2) := by decide +kernel
theorem dX10_ask_37 : decode cX10_ask 37 = .ok (.istore 5, 2) := by decide +kernel
theorem dX10_ask_39 : decode cX10_ask 39 = .ok (.iconst 0, 1) := by decide +kernel
theorem dX10_ask_40 : decode cX10_ask 40 = .ok (.istore 6, 2) := by decide +kernel
theorem dX10_ask_42 : decode cX10_ask 42 = .ok (.iload 6, 2) := by decide +kernel
theorem dX10_ask_44 : decode cX10_ask 44 = .ok (.aload_n 0, 1) := by decide +kernel
theorem dX10_ask_45 : decode cX10_ask 45 = .ok (.getfield 10, 3) := by decide +kernel
theorem dX10_ask_48 : decode cX10_ask 48 = .ok (.getfield 108, 3) := by decide +kernel
theorem dX10_ask_51 : decode cX10_ask 51 = .ok (.if_icmp .ge 57, 3) := by decide +kernel
theorem dX10_ask_54 : decode cX10_ask 54 = .ok (.iload_n 3, 1) := by decide +kernel
theorem dX10_ask_55 : decode cX10_ask 55 = .ok (.aload_n 0, 1) := by decide +kernel
theorem dX10_ask_56 : decode cX10_ask 56 = .ok (.getfield 10, 3) := by decide +kernel
theorem dX10_ask_59 : decode cX10_ask 59 = .ok (.getfield 104, 3) := by decide +kernel
theorem dX10_ask_62 : decode cX10_ask 62 = .ok (.iload 6, 2) := by decide +kernel
theorem dX10_ask_64 : decode cX10_ask 64 = .ok (.invokevirtual 294, 3) := by decide +kernel
theorem dX10_ask_67 : decode cX10_ask 67 = .ok (.iand, 1) := by decide +kernel
theorem dX10_ask_68 : decode cX10_ask 68 = .ok (.invokestatic 259, 3) := by decide +kernel
theorem dX10_ask_71 : decode cX10_ask 71 = .ok (.istore 7, 2) := by decide +kernel
theorem dX10_ask_73 : decode cX10_ask 73 = .ok (.iload 7, 2) := by decide +kernel
theorem dX10_ask_75 : decode cX10_ask 75 = .ok (.iload_n 3, 1) := by decide +kernel
theorem dX10_ask_76 : decode cX10_ask 76 = .ok (.invokestatic 259, 3) := by decide +kernel
theorem dX10_ask_79 : decode cX10_ask 79 = .ok (.iload 7, 2) := by decide +kernel
theorem dX10_ask_81 : decode cX10_ask 81 = .ok (.isub, 1) := by decide +kernel
theorem dX10_ask_82 : decode cX10_ask 82 = .ok (.invokestatic 297, 3) := by decide +kernel
theorem dX10_ask_85 : decode cX10_ask 85 = .ok (.istore 8, 2) := by decide +kernel
theorem dX10_ask_87 : decode cX10_ask 87 = .ok (.iload 8, 2) := by decide +kernel
theorem dX10_ask_89 : decode cX10_ask 89 = .ok (.iload 5, 2) := by decide +kernel
theorem dX10_ask_91 : decode cX10_ask 91 = .ok (.if_icmp .ge 11, 3) := by decide +kernel
theorem dX10_ask_94 : decode cX10_ask 94 = .ok (.iload 8, 2) := by decide +kernel
theorem dX10_ask_96 : decode cX10_ask 96 = .ok (.istore 5, 2) := by decide +kernel
theorem dX10_ask_98 : decode cX10_ask 98 = .ok (.iload 6, 2) := by decide +kernel
theorem dX10_ask_100 : decode cX10_ask 100 = .ok (.istore 4, 2) := by decide +kernel
theorem dX10_ask_102 : decode cX10_ask 102 = .ok (.iinc 6 1, 3) := by decide +kernel
theorem dX10_ask_105 : decode cX10_ask 105 = .ok (.goto (-63), 3) := by decide +kernel
theorem dX10_ask_108 : decode cX10_ask 108 = .ok (.iload_n 1, 1) := by decide +kernel
theorem dX10_ask_109 : decode cX10_ask 109 = .ok (.ifCond .ne 8, 3) := by decide +kernel
theorem dX10_ask_112 : decode cX10_ask 112 = .ok (.iload 4, 2) := by decide +kernel
theorem dX10_ask_114 : decode cX10_ask 114 = .ok (.goto 5, 3) := by decide +kernel
theorem dX10_ask_117 : decode cX10_ask 117 = .ok (.iload 5, 2) := by decide +kernel
theorem dX10_ask_119 : decode cX10_ask 119 = .ok (.ireturn, 1) := by decide +kernel
theorem dX10_image_0 : decode cX10_image 0 = .ok (.iload_n 1, 1) := by decide +kernel
theorem dX10_image_1 : decode cX10_image 1 = .ok (.ifCond .lt 8, 3) := by decide +kernel
theorem dX10_image_4 : decode cX10_image 4 = .ok (.iload_n 1, 1) := by decide +kernel
theorem dX10_image_5 : decode cX10_image 5 = .ok (.iconst 3, 1) := by decide +kernel
theorem dX10_image_6 : decode cX10_image 6 = .ok (.if_icmp .lt 5, 3) := by decide +kernel
theorem dX10_image_9 : decode cX10_image 9 = .ok (.iconst (-1), 1) := by decide +kernel
theorem dX10_image_10 : decode cX10_image 10 = .ok (.ireturn, 1) := by decide +kernel
theorem dX10_image_11 : decode cX10_image 11 = .ok (.aload_n 0, 1) := by decide +kernel
theorem dX10_image_12 : decode cX10_image 12 = .ok (.getfield 61, 3) := by decide +kernel
theorem dX10_image_15 : decode cX10_image 15 = .ok (.iload_n 1, 1) := by decide +kernel
theorem dX10_image_16 : decode cX10_image 16 = .ok (.aaload, 1) := by decide +kernel
theorem dX10_image_17 : decode cX10_image 17 = .ok (.aload_n 0, 1) := by decide +kernel
theorem dX10_image_18 : decode cX10_image 18 = .ok (.getfield 47, 3) := by decide +kernel
theorem dX10_image_21 : decode cX10_image 21 = .ok (.invokevirtual 264, 3) := by decide +kernel
theorem dX10_image_24 : decode cX10_image 24 = .ok (.aload_n 0, 1) := by decide +kernel
theorem dX10_image_25 : decode cX10_image 25 = .ok (.dup, 1) := by decide +kernel
theorem dX10_image_26 : decode cX10_image 26 = .ok (.getfield 302, 3) := by decide +kernel
theorem dX10_image_29 : decode cX10_image 29 = .ok (.iconst 1, 1) := by decide +kernel
theorem dX10_image_30 : decode cX10_image 30 = .ok (.iload_n 1, 1) := by decide +kernel
theorem dX10_image_31 : decode cX10_image 31 = .ok (.ishl, 1) := by decide +kernel
theorem dX10_image_32 : decode cX10_image 32 = .ok (.ior, 1) := by decide +kernel
theorem dX10_image_33 : decode cX10_image 33 = .ok (.putfield 302, 3) := by decide +kernel
theorem dX10_image_36 : decode cX10_image 36 = .ok (.aload_n 0, 1) := by decide +kernel
theorem dX10_image_37 : decode cX10_image 37 = .ok (.getfield 47, 3) := by decide +kernel
theorem dX10_image_40 : decode cX10_image 40 = .ok (.invokevirtual 232, 3) := by decide +kernel
theorem dX10_image_43 : decode cX10_image 43 = .ok (.ireturn, 1) := by decide +kernel
theorem dX10_back_0 : decode cX10_back 0 = .ok (.iload_n 1, 1) := by decide +kernel
theorem dX10_back_1 : decode cX10_back 1 = .ok (.ifCond .lt 19, 3) := by decide +kernel
theorem dX10_back_4 : decode cX10_back 4 = .ok (.iload_n 1, 1) := by decide +kernel
theorem dX10_back_5 : decode cX10_back 5 = .ok (.iconst 3, 1) := by decide +kernel
theorem dX10_back_6 : decode cX10_back 6 = .ok (.if_icmp .ge 14, 3) := by decide +kernel
theorem dX10_back_9 : decode cX10_back 9 = .ok (.aload_n 0, 1) := by decide +kernel
theorem dX10_back_10 : decode cX10_back 10 = .ok (.getfield 302, 3) := by decide +kernel
theorem dX10_back_13 : decode cX10_back 13 = .ok (.iload_n 1, 1) := by decide +kernel
theorem dX10_back_14 : decode cX10_back 14 = .ok (.ishr, 1) := by decide +kernel
theorem dX10_back_15 : decode cX10_back 15 = .ok (.iconst 1, 1) := by decide +kernel
theorem dX10_back_16 : decode cX10_back 16 = .ok (.iand, 1) := by decide +kernel
theorem dX10_back_17 : decode cX10_back 17 = .ok (.ifCond .ne 5, 3) := by decide +kernel
theorem dX10_back_20 : decode cX10_back 20 = .ok (.iconst (-1), 1) := by decide +kernel
theorem dX10_back_21 : decode cX10_back 21 = .ok (.ireturn, 1) := by decide +kernel
theorem dX10_back_22 : decode cX10_back 22 = .ok (.aload_n 0, 1) := by decide +kernel
theorem dX10_back_23 : decode cX10_back 23 = .ok (.getfield 47, 3) := by decide +kernel
theorem dX10_back_26 : decode cX10_back 26 = .ok (.aload_n 0, 1) := by decide +kernel
theorem dX10_back_27 : decode cX10_back 27 = .ok (.getfield 61, 3) := by decide +kernel
theorem dX10_back_30 : decode cX10_back 30 = .ok (.iload_n 1, 1) := by decide +kernel
theorem dX10_back_31 : decode cX10_back 31 = .ok (.aaload, 1) := by decide +kernel
theorem dX10_back_32 : decode cX10_back 32 = .ok (.invokevirtual 264, 3) := by decide +kernel
theorem dX10_back_35 : decode cX10_back 35 = .ok (.aload_n 0, 1) := by decide +kernel
theorem dX10_back_36 : decode cX10_back 36 = .ok (.getfield 57, 3) := by decide +kernel
theorem dX10_back_39 : decode cX10_back 39 = .ok (.aload_n 0, 1) := by decide +kernel
theorem dX10_back_40 : decode cX10_back 40 = .ok (.getfield 47, 3) := by decide +kernel
theorem dX10_back_43 : decode cX10_back 43 = .ok (.invokevirtual 305, 3) := by decide +kernel
theorem dX10_back_46 : decode cX10_back 46 = .ok (.aload_n 0, 1) := by decide +kernel
theorem dX10_back_47 : decode cX10_back 47 = .ok (.getfield 47, 3) := by decide +kernel
theorem dX10_back_50 : decode cX10_back 50 = .ok (.invokevirtual 232, 3) := by decide +kernel
theorem dX10_back_53 : decode cX10_back 53 = .ok (.ireturn, 1) := by decide +kernel
theorem dX10_about_0 : decode cX10_about 0 = .ok (.iload_n 1, 1) := by decide +kernel
theorem dX10_about_1 : decode cX10_about 1 = .ok (.tableswitch 184 0 12 #[67, 75, 83, 91, 99, 107, 116, 125, 133, 149, 157, 165, 173], 67) := by decide +kernel
theorem dX10_about_68 : decode cX10_about 68 = .ok (.aload_n 0, 1) := by decide +kernel
theorem dX10_about_69 : decode cX10_about 69 = .ok (.getfield 10, 3) := by decide +kernel
theorem dX10_about_72 : decode cX10_about 72 = .ok (.getfield 108, 3) := by decide +kernel
theorem dX10_about_75 : decode cX10_about 75 = .ok (.ireturn, 1) := by decide +kernel
theorem dX10_about_76 : decode cX10_about 76 = .ok (.aload_n 0, 1) := by decide +kernel
theorem dX10_about_77 : decode cX10_about 77 = .ok (.getfield 10, 3) := by decide +kernel
theorem dX10_about_80 : decode cX10_about 80 = .ok (.getfield 253, 3) := by decide +kernel
theorem dX10_about_83 : decode cX10_about 83 = .ok (.ireturn, 1) := by decide +kernel
theorem dX10_about_84 : decode cX10_about 84 = .ok (.aload_n 0, 1) := by decide +kernel
theorem dX10_about_85 : decode cX10_about 85 = .ok (.getfield 10, 3) := by decide +kernel
theorem dX10_about_88 : decode cX10_about 88 = .ok (.getfield 308, 3) := by decide +kernel
theorem dX10_about_91 : decode cX10_about 91 = .ok (.ireturn, 1) := by decide +kernel
theorem dX10_about_92 : decode cX10_about 92 = .ok (.aload_n 0, 1) := by decide +kernel
theorem dX10_about_93 : decode cX10_about 93 = .ok (.getfield 47, 3) := by decide +kernel
theorem dX10_about_96 : decode cX10_about 96 = .ok (.invokevirtual 232, 3) := by decide +kernel
theorem dX10_about_99 : decode cX10_about 99 = .ok (.ireturn, 1) := by decide +kernel
theorem dX10_about_100 : decode cX10_about 100 = .ok (.aload_n 0, 1) := by decide +kernel
theorem dX10_about_101 : decode cX10_about 101 = .ok (.getfield 47, 3) := by decide +kernel
theorem dX10_about_104 : decode cX10_about 104 = .ok (.invokevirtual 311, 3) := by decide +kernel
theorem dX10_about_107 : decode cX10_about 107 = .ok (.ireturn, 1) := by decide +kernel
theorem dX10_about_108 : decode cX10_about 108 = .ok (.aload_n 0, 1) := by decide +kernel
theorem dX10_about_109 : decode cX10_about 109 = .ok (.getfield 47, 3) := by decide +kernel
theorem dX10_about_112 : decode cX10_about 112 = .ok (.iconst 1, 1) := by decide +kernel
theorem dX10_about_113 : decode cX10_about 113 = .ok (.invokevirtual 314, 3) := by decide +kernel
theorem dX10_about_116 : decode cX10_about 116 = .ok (.ireturn, 1) := by decide +kernel
theorem dX10_about_117 : decode cX10_about 117 = .ok (.aload_n 0, 1) := by decide +kernel
theorem dX10_about_118 : decode cX10_about 118 = .ok (.getfield 47, 3) := by decide +kernel
theorem dX10_about_121 : decode cX10_about 121 = .ok (.iconst 2, 1) := by decide +kernel
theorem dX10_about_122 : decode cX10_about 122 = .ok (.invokevirtual 314, 3) := by decide +kernel
theorem dX10_about_125 : decode cX10_about 125 = .ok (.ireturn, 1) := by decide +kernel
theorem dX10_about_126 : decode cX10_about 126 = .ok (.aload_n 0, 1) := by decide +kernel
theorem dX10_about_127 : decode cX10_about 127 = .ok (.getfield 57, 3) := by decide +kernel
theorem dX10_about_130 : decode cX10_about 130 = .ok (.getfield 317, 3) := by decide +kernel
theorem dX10_about_133 : decode cX10_about 133 = .ok (.ireturn, 1) := by decide +kernel
theorem dX10_about_134 : decode cX10_about 134 = .ok (.aload_n 0, 1) := by decide +kernel
theorem dX10_about_135 : decode cX10_about 135 = .ok (.getfield 57, 3) := by decide +kernel
theorem dX10_about_138 : decode cX10_about 138 = .ok (.getfield 320, 3) := by decide +kernel
theorem dX10_about_141 : decode cX10_about 141 = .ok (.aload_n 0, 1) := by decide +kernel
theorem dX10_about_142 : decode cX10_about 142 = .ok (.getfield 57, 3) := by decide +kernel
theorem dX10_about_145 : decode cX10_about 145 = .ok (.getfield 317, 3) := by decide +kernel
theorem dX10_about_148 : decode cX10_about 148 = .ok (.isub, 1) := by decide +kernel
theorem dX10_about_149 : decode cX10_about 149 = .ok (.ireturn, 1) := by decide +kernel
theorem dX10_about_150 : decode cX10_about 150 = .ok (.aload_n 0, 1) := by decide +kernel
theorem dX10_about_151 : decode cX10_about 151 = .ok (.getfield 75, 3) := by decide +kernel
theorem dX10_about_154 : decode cX10_about 154 = .ok (.getfield 323, 3) := by decide +kernel
theorem dX10_about_157 : decode cX10_about 157 = .ok (.ireturn, 1) := by decide +kernel
theorem dX10_about_158 : decode cX10_about 158 = .ok (.aload_n 0, 1) := by decide +kernel
theorem dX10_about_159 : decode cX10_about 159 = .ok (.getfield 75, 3) := by decide +kernel
theorem dX10_about_162 : decode cX10_about 162 = .ok (.getfield 326, 3) := by decide +kernel
theorem dX10_about_165 : decode cX10_about 165 = .ok (.ireturn, 1) := by decide +kernel
theorem dX10_about_166 : decode cX10_about 166 = .ok (.aload_n 0, 1) := by decide +kernel
theorem dX10_about_167 : decode cX10_about 167 = .ok (.getfield 22, 3) := by decide +kernel
theorem dX10_about_170 : decode cX10_about 170 = .ok (.getfield 90, 3) := by decide +kernel
theorem dX10_about_173 : decode cX10_about 173 = .ok (.ireturn, 1) := by decide +kernel
theorem dX10_about_174 : decode cX10_about 174 = .ok (.aload_n 0, 1) := by decide +kernel
theorem dX10_about_175 : decode cX10_about 175 = .ok (.getfield 10, 3) := by decide +kernel
theorem dX10_about_178 : decode cX10_about 178 = .ok (.getfield 329, 3) := by decide +kernel
theorem dX10_about_181 : decode cX10_about 181 = .ok (.getfield 333, 3) := by decide +kernel
theorem dX10_about_184 : decode cX10_about 184 = .ok (.ireturn, 1) := by decide +kernel
theorem dX10_about_185 : decode cX10_about 185 = .ok (.iconst (-1), 1) := by decide +kernel
theorem dX10_about_186 : decode cX10_about 186 = .ok (.ireturn, 1) := by decide +kernel
theorem dX10_settleIn_0 : decode cX10_settleIn 0 = .ok (.aload_n 0, 1) := by decide +kernel
theorem dX10_settleIn_1 : decode cX10_settleIn 1 = .ok (.getfield 40, 3) := by decide +kernel
theorem dX10_settleIn_4 : decode cX10_settleIn 4 = .ok (.aload_n 0, 1) := by decide +kernel
theorem dX10_settleIn_5 : decode cX10_settleIn 5 = .ok (.getfield 10, 3) := by decide +kernel
theorem dX10_settleIn_8 : decode cX10_settleIn 8 = .ok (.putfield 338, 3) := by decide +kernel
theorem dX10_settleIn_11 : decode cX10_settleIn 11 = .ok (.aload_n 0, 1) := by decide +kernel
theorem dX10_settleIn_12 : decode cX10_settleIn 12 = .ok (.getfield 47, 3) := by decide +kernel
theorem dX10_settleIn_15 : decode cX10_settleIn 15 = .ok (.aload_n 0, 1) := by decide +kernel
theorem dX10_settleIn_16 : decode cX10_settleIn 16 = .ok (.getfield 10, 3) := by decide +kernel
theorem dX10_settleIn_19 : decode cX10_settleIn 19 = .ok (.invokevirtual 341, 3) := by decide +kernel
theorem dX10_settleIn_22 : decode cX10_settleIn 22 = .ok (.aload_n 0, 1) := by decide +kernel
theorem dX10_settleIn_23 : decode cX10_settleIn 23 = .ok (.getfield 57, 3) := by decide +kernel
theorem dX10_settleIn_26 : decode cX10_settleIn 26 = .ok (.aload_n 0, 1) := by decide +kernel
theorem dX10_settleIn_27 : decode cX10_settleIn 27 = .ok (.getfield 47, 3) := by decide +kernel
theorem dX10_settleIn_30 : decode cX10_settleIn 30 = .ok (.invokevirtual 305, 3) := by decide +kernel
theorem dX10_settleIn_33 : decode cX10_settleIn 33 = .ok (.aload_n 0, 1) := by decide +kernel
theorem dX10_settleIn_34 : decode cX10_settleIn 34 = .ok (.getfield 75, 3) := by decide +kernel
theorem dX10_settleIn_37 : decode cX10_settleIn 37 = .ok (.iconst 0, 1) := by decide +kernel
theorem dX10_settleIn_38 : decode cX10_settleIn 38 = .ok (.putfield 323, 3) := by decide +kernel
theorem dX10_settleIn_41 : decode cX10_settleIn 41 = .ok (.aload_n 0, 1) := by decide +kernel
theorem dX10_settleIn_42 : decode cX10_settleIn 42 = .ok (.iconst 0, 1) := by decide +kernel
theorem dX10_settleIn_43 : decode cX10_settleIn 43 = .ok (.putfield 302, 3) := by decide +kernel
theorem dX10_settleIn_46 : decode cX10_settleIn 46 = .ok (.return_, 1) := by decide +kernel
theorem dX10_isOpen_0 : decode cX10_isOpen 0 = .ok (.aload_n 0, 1) := by decide +kernel
theorem dX10_isOpen_1 : decode cX10_isOpen 1 = .ok (.getfield 10, 3) := by decide +kernel
theorem dX10_isOpen_4 : decode cX10_isOpen 4 = .ok (.iload_n 1, 1) := by decide +kernel
theorem dX10_isOpen_5 : decode cX10_isOpen 5 = .ok (.invokevirtual 163, 3) := by decide +kernel
theorem dX10_isOpen_8 : decode cX10_isOpen 8 = .ok (.ifCond .eq 18, 3) := by decide +kernel
theorem dX10_isOpen_11 : decode cX10_isOpen 11 = .ok (.aload_n 0, 1) := by decide +kernel
theorem dX10_isOpen_12 : decode cX10_isOpen 12 = .ok (.getfield 47, 3) := by decide +kernel
theorem dX10_isOpen_15 : decode cX10_isOpen 15 = .ok (.iload_n 1, 1) := by decide +kernel
theorem dX10_isOpen_16 : decode cX10_isOpen 16 = .ok (.invokevirtual 181, 3) := by decide +kernel
theorem dX10_isOpen_19 : decode cX10_isOpen 19 = .ok (.ifCond .ne 7, 3) := by decide +kernel
theorem dX10_isOpen_22 : decode cX10_isOpen 22 = .ok (.iconst 1, 1) := by decide +kernel
theorem dX10_isOpen_23 : decode cX10_isOpen 23 = .ok (.goto 4, 3) := by decide +kernel
theorem dX10_isOpen_26 : decode cX10_isOpen 26 = .ok (.iconst 0, 1) := by decide +kernel
theorem dX10_isOpen_27 : decode cX10_isOpen 27 = .ok (.ireturn, 1) := by decide +kernel
theorem dX10_openWithin_0 : decode cX10_openWithin 0 = .ok (.iconst 0, 1) := by decide +kernel
theorem dX10_openWithin_1 : decode cX10_openWithin 1 = .ok (.istore_n 2, 1) := by decide +kernel
theorem dX10_openWithin_2 : decode cX10_openWithin 2 = .ok (.iconst 0, 1) := by decide +kernel
theorem dX10_openWithin_3 : decode cX10_openWithin 3 = .ok (.istore_n 3, 1) := by decide +kernel
theorem dX10_openWithin_4 : decode cX10_openWithin 4 = .ok (.iload_n 3, 1) := by decide +kernel
theorem dX10_openWithin_5 : decode cX10_openWithin 5 = .ok (.aload_n 0, 1) := by decide +kernel
theorem dX10_openWithin_6 : decode cX10_openWithin 6 = .ok (.getfield 10, 3) := by decide +kernel
theorem dX10_openWithin_9 : decode cX10_openWithin 9 = .ok (.getfield 308, 3) := by decide +kernel
theorem dX10_openWithin_12 : decode cX10_openWithin 12 = .ok (.if_icmp .ge 52, 3) := by decide +kernel
theorem dX10_openWithin_15 : decode cX10_openWithin 15 = .ok (.aload_n 0, 1) := by decide +kernel
theorem dX10_openWithin_16 : decode cX10_openWithin 16 = .ok (.iload_n 3, 1) := by decide +kernel
theorem dX10_openWithin_17 : decode cX10_openWithin 17 = .ok (.invokevirtual 222, 3) := by decide +kernel
theorem dX10_openWithin_20 : decode cX10_openWithin 20 = .ok (.ifCond .eq 38, 3) := by decide +kernel
theorem dX10_openWithin_23 : decode cX10_openWithin 23 = .ok (.aload_n 0, 1) := by decide +kernel
theorem dX10_openWithin_24 : decode cX10_openWithin 24 = .ok (.getfield 10, 3) := by decide +kernel
theorem dX10_openWithin_27 : decode cX10_openWithin 27 = .ok (.getfield 104, 3) := by decide +kernel
theorem dX10_openWithin_30 : decode cX10_openWithin 30 = .ok (.aload_n 0, 1) := by decide +kernel
theorem dX10_openWithin_31 : decode cX10_openWithin 31 = .ok (.getfield 10, 3) := by decide +kernel
theorem dX10_openWithin_34 : decode cX10_openWithin 34 = .ok (.getfield 166, 3) := by decide +kernel
theorem dX10_openWithin_37 : decode cX10_openWithin 37 = .ok (.iload_n 3, 1) := by decide +kernel
theorem dX10_openWithin_38 : decode cX10_openWithin 38 = .ok (.iaload, 1) := by decide +kernel
theorem dX10_openWithin_39 : decode cX10_openWithin 39 = .ok (.aload_n 0, 1) := by decide +kernel
theorem dX10_openWithin_40 : decode cX10_openWithin 40 = .ok (.getfield 10, 3) := by decide +kernel
theorem dX10_openWithin_43 : decode cX10_openWithin 43 = .ok (.getfield 169, 3) := by decide +kernel
theorem dX10_openWithin_46 : decode cX10_openWithin 46 = .ok (.iload_n 3, 1) := by decide +kernel
theorem dX10_openWithin_47 : decode cX10_openWithin 47 = .ok (.iaload, 1) := by decide +kernel
theorem dX10_openWithin_48 : decode cX10_openWithin 48 = .ok (.iload_n 1, 1) := by decide +kernel
theorem dX10_openWithin_49 : decode cX10_openWithin 49 = .ok (.invokevirtual 342, 3) := by decide +kernel
theorem dX10_openWithin_52 : decode cX10_openWithin 52 = .ok (.ifCond .eq 6, 3) := by decide +kernel
theorem dX10_openWithin_55 : decode cX10_openWithin 55 = .ok (.iinc 2 1, 3) := by decide +kernel
theorem dX10_openWithin_58 : decode cX10_openWithin 58 = .ok (.iinc 3 1, 3) := by decide +kernel
theorem dX10_openWithin_61 : decode cX10_openWithin 61 = .ok (.goto (-57), 3) := by decide +kernel
theorem dX10_openWithin_64 : decode cX10_openWithin 64 = .ok (.iload_n 2, 1) := by decide +kernel
theorem dX10_openWithin_65 : decode cX10_openWithin 65 = .ok (.ireturn, 1) := by decide +kernel
theorem dX10_greatestCommon_0 : decode cX10_greatestCommon 0 = .ok (.iload_n 0, 1) := by decide +kernel
theorem dX10_greatestCommon_1 : decode cX10_greatestCommon 1 = .ok (.istore_n 2, 1) := by decide +kernel
theorem dX10_greatestCommon_2 : decode cX10_greatestCommon 2 = .ok (.iload_n 1, 1) := by decide +kernel
theorem dX10_greatestCommon_3 : decode cX10_greatestCommon 3 = .ok (.istore_n 3, 1) := by decide +kernel
theorem dX10_greatestCommon_4 : decode cX10_greatestCommon 4 = .ok (.iconst 0, 1) := by decide +kernel
theorem dX10_greatestCommon_5 : decode cX10_greatestCommon 5 = .ok (.istore 4, 2) := by decide +kernel
theorem dX10_greatestCommon_7 : decode cX10_greatestCommon 7 = .ok (.iload 4, 2) := by decide +kernel
theorem dX10_greatestCommon_9 : decode cX10_greatestCommon 9 = .ok (.bipush 100, 2) := by decide +kernel
theorem dX10_greatestCommon_11 : decode cX10_greatestCommon 11 = .ok (.if_icmp .ge 23, 3) := by decide +kernel
theorem dX10_greatestCommon_14 : decode cX10_greatestCommon 14 = .ok (.iload_n 3, 1) := by decide +kernel
theorem dX10_greatestCommon_15 : decode cX10_greatestCommon 15 = .ok (.ifCond .eq 19, 3) := by decide +kernel
theorem dX10_greatestCommon_18 : decode cX10_greatestCommon 18 = .ok (.iload_n 2, 1) := by decide +kernel
theorem dX10_greatestCommon_19 : decode cX10_greatestCommon 19 = .ok (.iload_n 3, 1) := by decide +kernel
theorem dX10_greatestCommon_20 : decode cX10_greatestCommon 20 = .ok (.irem, 1) := by decide +kernel
theorem dX10_greatestCommon_21 : decode cX10_greatestCommon 21 = .ok (.istore 5, 2) := by decide +kernel
theorem dX10_greatestCommon_23 : decode cX10_greatestCommon 23 = .ok (.iload_n 3, 1) := by decide +kernel
theorem dX10_greatestCommon_24 : decode cX10_greatestCommon 24 = .ok (.istore_n 2, 1) := by decide +kernel
theorem dX10_greatestCommon_25 : decode cX10_greatestCommon 25 = .ok (.iload 5, 2) := by decide +kernel
theorem dX10_greatestCommon_27 : decode cX10_greatestCommon 27 = .ok (.istore_n 3, 1) := by decide +kernel
theorem dX10_greatestCommon_28 : decode cX10_greatestCommon 28 = .ok (.iinc 4 1, 3) := by decide +kernel
theorem dX10_greatestCommon_31 : decode cX10_greatestCommon 31 = .ok (.goto (-24), 3) := by decide +kernel
theorem dX10_greatestCommon_34 : decode cX10_greatestCommon 34 = .ok (.iload_n 2, 1) := by decide +kernel
theorem dX10_greatestCommon_35 : decode cX10_greatestCommon 35 = .ok (.ireturn, 1) := by decide +kernel
theorem dJ11_isValidCodePoint_9a6ad_0 : decode cJ11_isValidCodePoint_9a6ad 0 = .ok (.iload_n 0, 1) := by decide +kernel
theorem dJ11_isValidCodePoint_9a6ad_1 : decode cJ11_isValidCodePoint_9a6ad 1 = .ok (.bipush 16, 2) := by decide +kernel
theorem dJ11_isValidCodePoint_9a6ad_3 : decode cJ11_isValidCodePoint_9a6ad 3 = .ok (.iushr, 1) := by decide +kernel
theorem dJ11_isValidCodePoint_9a6ad_4 : decode cJ11_isValidCodePoint_9a6ad 4 = .ok (.istore_n 1, 1) := by decide +kernel
theorem dJ11_isValidCodePoint_9a6ad_5 : decode cJ11_isValidCodePoint_9a6ad 5 = .ok (.iload_n 1, 1) := by decide +kernel
theorem dJ11_isValidCodePoint_9a6ad_6 : decode cJ11_isValidCodePoint_9a6ad 6 = .ok (.bipush 17, 2) := by decide +kernel
theorem dJ11_isValidCodePoint_9a6ad_8 : decode cJ11_isValidCodePoint_9a6ad 8 = .ok (.if_icmp .ge 7, 3) := by decide +kernel
theorem dJ11_isValidCodePoint_9a6ad_11 : decode cJ11_isValidCodePoint_9a6ad 11 = .ok (.iconst 1, 1) := by decide +kernel
theorem dJ11_isValidCodePoint_9a6ad_12 : decode cJ11_isValidCodePoint_9a6ad 12 = .ok (.goto 4, 3) := by decide +kernel
theorem dJ11_isValidCodePoint_9a6ad_15 : decode cJ11_isValidCodePoint_9a6ad 15 = .ok (.iconst 0, 1) := by decide +kernel
theorem dJ11_isValidCodePoint_9a6ad_16 : decode cJ11_isValidCodePoint_9a6ad 16 = .ok (.ireturn, 1) := by decide +kernel
theorem dJ11_highSurrogate_5068e_0 : decode cJ11_highSurrogate_5068e 0 = .ok (.iload_n 0, 1) := by decide +kernel
theorem dJ11_highSurrogate_5068e_1 : decode cJ11_highSurrogate_5068e 1 = .ok (.bipush 10, 2) := by decide +kernel
theorem dJ11_highSurrogate_5068e_3 : decode cJ11_highSurrogate_5068e 3 = .ok (.iushr, 1) := by decide +kernel
theorem dJ11_highSurrogate_5068e_4 : decode cJ11_highSurrogate_5068e 4 = .ok (.ldc 110, 2) := by decide +kernel
theorem dJ11_highSurrogate_5068e_6 : decode cJ11_highSurrogate_5068e 6 = .ok (.iadd, 1) := by decide +kernel
theorem dJ11_highSurrogate_5068e_7 : decode cJ11_highSurrogate_5068e 7 = .ok (.i2c, 1) := by decide +kernel
theorem dJ11_highSurrogate_5068e_8 : decode cJ11_highSurrogate_5068e 8 = .ok (.ireturn, 1) := by decide +kernel
theorem dJ11_lowSurrogate_5068e_0 : decode cJ11_lowSurrogate_5068e 0 = .ok (.iload_n 0, 1) := by decide +kernel
theorem dJ11_lowSurrogate_5068e_1 : decode cJ11_lowSurrogate_5068e 1 = .ok (.sipush 1023, 3) := by decide +kernel
theorem dJ11_lowSurrogate_5068e_4 : decode cJ11_lowSurrogate_5068e 4 = .ok (.iand, 1) := by decide +kernel
theorem dJ11_lowSurrogate_5068e_5 : decode cJ11_lowSurrogate_5068e 5 = .ok (.ldc 76, 2) := by decide +kernel
theorem dJ11_lowSurrogate_5068e_7 : decode cJ11_lowSurrogate_5068e 7 = .ok (.iadd, 1) := by decide +kernel
theorem dJ11_lowSurrogate_5068e_8 : decode cJ11_lowSurrogate_5068e 8 = .ok (.i2c, 1) := by decide +kernel
theorem dJ11_lowSurrogate_5068e_9 : decode cJ11_lowSurrogate_5068e 9 = .ok (.ireturn, 1) := by decide +kernel
theorem dJ1_charAt_3b067_0 : decode cJ1_charAt_3b067 0 = .ok (.iload_n 1, 1) := by decide +kernel
theorem dJ1_charAt_3b067_1 : decode cJ1_charAt_3b067 1 = .ok (.aload_n 0, 1) := by decide +kernel
theorem dJ1_charAt_3b067_2 : decode cJ1_charAt_3b067 2 = .ok (.arraylength, 1) := by decide +kernel
theorem dJ1_charAt_3b067_3 : decode cJ1_charAt_3b067 3 = .ok (.invokestatic 9, 3) := by decide +kernel
theorem dJ1_charAt_3b067_6 : decode cJ1_charAt_3b067 6 = .ok (.aload_n 0, 1) := by decide +kernel
theorem dJ1_charAt_3b067_7 : decode cJ1_charAt_3b067 7 = .ok (.iload_n 1, 1) := by decide +kernel
theorem dJ1_charAt_3b067_8 : decode cJ1_charAt_3b067 8 = .ok (.baload, 1) := by decide +kernel
theorem dJ1_charAt_3b067_9 : decode cJ1_charAt_3b067 9 = .ok (.sipush 255, 3) := by decide +kernel
theorem dJ1_charAt_3b067_12 : decode cJ1_charAt_3b067 12 = .ok (.iand, 1) := by decide +kernel
theorem dJ1_charAt_3b067_13 : decode cJ1_charAt_3b067 13 = .ok (.i2c, 1) := by decide +kernel
theorem dJ1_charAt_3b067_14 : decode cJ1_charAt_3b067 14 = .ok (.ireturn, 1) := by decide +kernel
theorem dJ1_canEncode_9a6ad_0 : decode cJ1_canEncode_9a6ad 0 = .ok (.iload_n 0, 1) := by decide +kernel
theorem dJ1_canEncode_9a6ad_1 : decode cJ1_canEncode_9a6ad 1 = .ok (.ifCond .lt 14, 3) := by decide +kernel
theorem dJ1_canEncode_9a6ad_4 : decode cJ1_canEncode_9a6ad 4 = .ok (.iload_n 0, 1) := by decide +kernel
theorem dJ1_canEncode_9a6ad_5 : decode cJ1_canEncode_9a6ad 5 = .ok (.sipush 255, 3) := by decide +kernel
theorem dJ1_canEncode_9a6ad_8 : decode cJ1_canEncode_9a6ad 8 = .ok (.if_icmp .gt 7, 3) := by decide +kernel
theorem dJ1_canEncode_9a6ad_11 : decode cJ1_canEncode_9a6ad 11 = .ok (.iconst 1, 1) := by decide +kernel
theorem dJ1_canEncode_9a6ad_12 : decode cJ1_canEncode_9a6ad 12 = .ok (.goto 4, 3) := by decide +kernel
theorem dJ1_canEncode_9a6ad_15 : decode cJ1_canEncode_9a6ad 15 = .ok (.iconst 0, 1) := by decide +kernel
theorem dJ1_canEncode_9a6ad_16 : decode cJ1_canEncode_9a6ad 16 = .ok (.ireturn, 1) := by decide +kernel
theorem dJ1_indexOf_4cfef_0 : decode cJ1_indexOf_4cfef 0 = .ok (.iload_n 1, 1) := by decide +kernel
theorem dJ1_indexOf_4cfef_1 : decode cJ1_indexOf_4cfef 1 = .ok (.invokestatic 88, 3) := by decide +kernel
theorem dJ1_indexOf_4cfef_4 : decode cJ1_indexOf_4cfef 4 = .ok (.ifCond .ne 5, 3) := by decide +kernel
theorem dJ1_indexOf_4cfef_7 : decode cJ1_indexOf_4cfef 7 = .ok (.iconst (-1), 1) := by decide +kernel
theorem dJ1_indexOf_4cfef_8 : decode cJ1_indexOf_4cfef 8 = .ok (.ireturn, 1) := by decide +kernel
theorem dJ1_indexOf_4cfef_9 : decode cJ1_indexOf_4cfef 9 = .ok (.iload_n 2, 1) := by decide +kernel
theorem dJ1_indexOf_4cfef_10 : decode cJ1_indexOf_4cfef 10 = .ok (.iconst 0, 1) := by decide +kernel
theorem dJ1_indexOf_4cfef_11 : decode cJ1_indexOf_4cfef 11 = .ok (.invokestatic 92, 3) := by decide +kernel
theorem dJ1_indexOf_4cfef_14 : decode cJ1_indexOf_4cfef 14 = .ok (.istore_n 2, 1) := by decide +kernel
theorem dJ1_indexOf_4cfef_15 : decode cJ1_indexOf_4cfef 15 = .ok (.iload_n 3, 1) := by decide +kernel
theorem dJ1_indexOf_4cfef_16 : decode cJ1_indexOf_4cfef 16 = .ok (.aload_n 0, 1) := by decide +kernel
theorem dJ1_indexOf_4cfef_17 : decode cJ1_indexOf_4cfef 17 = .ok (.arraylength, 1) := by decide +kernel
theorem dJ1_indexOf_4cfef_18 : decode cJ1_indexOf_4cfef 18 = .ok (.invokestatic 38, 3) := by decide +kernel
theorem dJ1_indexOf_4cfef_21 : decode cJ1_indexOf_4cfef 21 = .ok (.istore_n 3, 1) := by decide +kernel
theorem dJ1_indexOf_4cfef_22 : decode cJ1_indexOf_4cfef 22 = .ok (.iload_n 2, 1) := by decide +kernel
theorem dJ1_indexOf_4cfef_23 : decode cJ1_indexOf_4cfef 23 = .ok (.iload_n 3, 1) := by decide +kernel
theorem dJ1_indexOf_4cfef_24 : decode cJ1_indexOf_4cfef 24 = .ok (.if_icmp .lt 5, 3) := by decide +kernel
theorem dJ1_indexOf_4cfef_27 : decode cJ1_indexOf_4cfef 27 = .ok (.iconst (-1), 1) := by decide +kernel
theorem dJ1_indexOf_4cfef_28 : decode cJ1_indexOf_4cfef 28 = .ok (.ireturn, 1) := by decide +kernel
theorem dJ1_indexOf_4cfef_29 : decode cJ1_indexOf_4cfef 29 = .ok (.aload_n 0, 1) := by decide +kernel
theorem dJ1_indexOf_4cfef_30 : decode cJ1_indexOf_4cfef 30 = .ok (.iload_n 1, 1) := by decide +kernel
theorem dJ1_indexOf_4cfef_31 : decode cJ1_indexOf_4cfef 31 = .ok (.iload_n 2, 1) := by decide +kernel
theorem dJ1_indexOf_4cfef_32 : decode cJ1_indexOf_4cfef 32 = .ok (.iload_n 3, 1) := by decide +kernel
theorem dJ1_indexOf_4cfef_33 : decode cJ1_indexOf_4cfef 33 = .ok (.invokestatic 95, 3) := by decide +kernel
theorem dJ1_indexOf_4cfef_36 : decode cJ1_indexOf_4cfef 36 = .ok (.ireturn, 1) := by decide +kernel
theorem dJ1_indexOfChar_4cfef_0 : decode cJ1_indexOfChar_4cfef 0 = .ok (.iload_n 1, 1) := by decide +kernel
theorem dJ1_indexOfChar_4cfef_1 : decode cJ1_indexOfChar_4cfef 1 = .ok (.i2b, 1) := by decide +kernel
theorem dJ1_indexOfChar_4cfef_2 : decode cJ1_indexOfChar_4cfef 2 = .ok (.istore 4, 2) := by decide +kernel
theorem dJ1_indexOfChar_4cfef_4 : decode cJ1_indexOfChar_4cfef 4 = .ok (.iload_n 2, 1) := by decide +kernel
theorem dJ1_indexOfChar_4cfef_5 : decode cJ1_indexOfChar_4cfef 5 = .ok (.istore 5, 2) := by decide +kernel
theorem dJ1_indexOfChar_4cfef_7 : decode cJ1_indexOfChar_4cfef 7 = .ok (.iload 5, 2) := by decide +kernel
theorem dJ1_indexOfChar_4cfef_9 : decode cJ1_indexOfChar_4cfef 9 = .ok (.iload_n 3, 1) := by decide +kernel
theorem dJ1_indexOfChar_4cfef_10 : decode cJ1_indexOfChar_4cfef 10 = .ok (.if_icmp .ge 21, 3) := by decide +kernel
theorem dJ1_indexOfChar_4cfef_13 : decode cJ1_indexOfChar_4cfef 13 = .ok (.aload_n 0, 1) := by decide +kernel
theorem dJ1_indexOfChar_4cfef_14 : decode cJ1_indexOfChar_4cfef 14 = .ok (.iload 5, 2) := by decide +kernel
theorem dJ1_indexOfChar_4cfef_16 : decode cJ1_indexOfChar_4cfef 16 = .ok (.baload, 1) := by decide +kernel
theorem dJ1_indexOfChar_4cfef_17 : decode cJ1_indexOfChar_4cfef 17 = .ok (.iload 4, 2) := by decide +kernel
theorem dJ1_indexOfChar_4cfef_19 : decode cJ1_indexOfChar_4cfef 19 = .ok (.if_icmp .ne 6, 3) := by decide +kernel
theorem dJ1_indexOfChar_4cfef_22 : decode cJ1_indexOfChar_4cfef 22 = .ok (.iload 5, 2) := by decide +kernel
theorem dJ1_indexOfChar_4cfef_24 : decode cJ1_indexOfChar_4cfef 24 = .ok (.ireturn, 1) := by decide +kernel
theorem dJ1_indexOfChar_4cfef_25 : decode cJ1_indexOfChar_4cfef 25 = .ok (.iinc 5 1, 3) := by decide +kernel
theorem dJ1_indexOfChar_4cfef_28 : decode cJ1_indexOfChar_4cfef 28 = .ok (.goto (-21), 3) := by decide +kernel
theorem dJ1_indexOfChar_4cfef_31 : decode cJ1_indexOfChar_4cfef 31 = .ok (.iconst (-1), 1) := by decide +kernel
theorem dJ1_indexOfChar_4cfef_32 : decode cJ1_indexOfChar_4cfef 32 = .ok (.ireturn, 1) := by decide +kernel
theorem dJ6_bitCount_0f7a4_0 : decode cJ6_bitCount_0f7a4 0 = .ok (.iload_n 0, 1) := by decide +kernel
theorem dJ6_bitCount_0f7a4_1 : decode cJ6_bitCount_0f7a4 1 = .ok (.iload_n 0, 1) := by decide +kernel
theorem dJ6_bitCount_0f7a4_2 : decode cJ6_bitCount_0f7a4 2 = .ok (.iconst 1, 1) := by decide +kernel
theorem dJ6_bitCount_0f7a4_3 : decode cJ6_bitCount_0f7a4 3 = .ok (.iushr, 1) := by decide +kernel
theorem dJ6_bitCount_0f7a4_4 : decode cJ6_bitCount_0f7a4 4 = .ok (.ldc_w 265, 3) := by decide +kernel
theorem dJ6_bitCount_0f7a4_7 : decode cJ6_bitCount_0f7a4 7 = .ok (.iand, 1) := by decide +kernel
theorem dJ6_bitCount_0f7a4_8 : decode cJ6_bitCount_0f7a4 8 = .ok (.isub, 1) := by decide +kernel
theorem dJ6_bitCount_0f7a4_9 : decode cJ6_bitCount_0f7a4 9 = .ok (.istore_n 0, 1) := by decide +kernel
theorem dJ6_bitCount_0f7a4_10 : decode cJ6_bitCount_0f7a4 10 = .ok (.iload_n 0, 1) := by decide +kernel
theorem dJ6_bitCount_0f7a4_11 : decode cJ6_bitCount_0f7a4 11 = .ok (.ldc_w 266, 3) := by decide +kernel
theorem dJ6_bitCount_0f7a4_14 : decode cJ6_bitCount_0f7a4 14 = .ok (.iand, 1) := by decide +kernel
theorem dJ6_bitCount_0f7a4_15 : decode cJ6_bitCount_0f7a4 15 = .ok (.iload_n 0, 1) := by decide +kernel
theorem dJ6_bitCount_0f7a4_16 : decode cJ6_bitCount_0f7a4 16 = .ok (.iconst 2, 1) := by decide +kernel
theorem dJ6_bitCount_0f7a4_17 : decode cJ6_bitCount_0f7a4 17 = .ok (.iushr, 1) := by decide +kernel
theorem dJ6_bitCount_0f7a4_18 : decode cJ6_bitCount_0f7a4 18 = .ok (.ldc_w 266, 3) := by decide +kernel
theorem dJ6_bitCount_0f7a4_21 : decode cJ6_bitCount_0f7a4 21 = .ok (.iand, 1) := by decide +kernel
theorem dJ6_bitCount_0f7a4_22 : decode cJ6_bitCount_0f7a4 22 = .ok (.iadd, 1) := by decide +kernel
theorem dJ6_bitCount_0f7a4_23 : decode cJ6_bitCount_0f7a4 23 = .ok (.istore_n 0, 1) := by decide +kernel
theorem dJ6_bitCount_0f7a4_24 : decode cJ6_bitCount_0f7a4 24 = .ok (.iload_n 0, 1) := by decide +kernel
theorem dJ6_bitCount_0f7a4_25 : decode cJ6_bitCount_0f7a4 25 = .ok (.iload_n 0, 1) := by decide +kernel
theorem dJ6_bitCount_0f7a4_26 : decode cJ6_bitCount_0f7a4 26 = .ok (.iconst 4, 1) := by decide +kernel
theorem dJ6_bitCount_0f7a4_27 : decode cJ6_bitCount_0f7a4 27 = .ok (.iushr, 1) := by decide +kernel
theorem dJ6_bitCount_0f7a4_28 : decode cJ6_bitCount_0f7a4 28 = .ok (.iadd, 1) := by decide +kernel
theorem dJ6_bitCount_0f7a4_29 : decode cJ6_bitCount_0f7a4 29 = .ok (.ldc_w 267, 3) := by decide +kernel
theorem dJ6_bitCount_0f7a4_32 : decode cJ6_bitCount_0f7a4 32 = .ok (.iand, 1) := by decide +kernel
theorem dJ6_bitCount_0f7a4_33 : decode cJ6_bitCount_0f7a4 33 = .ok (.istore_n 0, 1) := by decide +kernel
theorem dJ6_bitCount_0f7a4_34 : decode cJ6_bitCount_0f7a4 34 = .ok (.iload_n 0, 1) := by decide +kernel
theorem dJ6_bitCount_0f7a4_35 : decode cJ6_bitCount_0f7a4 35 = .ok (.iload_n 0, 1) := by decide +kernel
theorem dJ6_bitCount_0f7a4_36 : decode cJ6_bitCount_0f7a4 36 = .ok (.bipush 8, 2) := by decide +kernel
theorem dJ6_bitCount_0f7a4_38 : decode cJ6_bitCount_0f7a4 38 = .ok (.iushr, 1) := by decide +kernel
theorem dJ6_bitCount_0f7a4_39 : decode cJ6_bitCount_0f7a4 39 = .ok (.iadd, 1) := by decide +kernel
theorem dJ6_bitCount_0f7a4_40 : decode cJ6_bitCount_0f7a4 40 = .ok (.istore_n 0, 1) := by decide +kernel
theorem dJ6_bitCount_0f7a4_41 : decode cJ6_bitCount_0f7a4 41 = .ok (.iload_n 0, 1) := by decide +kernel
theorem dJ6_bitCount_0f7a4_42 : decode cJ6_bitCount_0f7a4 42 = .ok (.iload_n 0, 1) := by decide +kernel
theorem dJ6_bitCount_0f7a4_43 : decode cJ6_bitCount_0f7a4 43 = .ok (.bipush 16, 2) := by decide +kernel
theorem dJ6_bitCount_0f7a4_45 : decode cJ6_bitCount_0f7a4 45 = .ok (.iushr, 1) := by decide +kernel
theorem dJ6_bitCount_0f7a4_46 : decode cJ6_bitCount_0f7a4 46 = .ok (.iadd, 1) := by decide +kernel
theorem dJ6_bitCount_0f7a4_47 : decode cJ6_bitCount_0f7a4 47 = .ok (.istore_n 0, 1) := by decide +kernel
theorem dJ6_bitCount_0f7a4_48 : decode cJ6_bitCount_0f7a4 48 = .ok (.iload_n 0, 1) := by decide +kernel
theorem dJ6_bitCount_0f7a4_49 : decode cJ6_bitCount_0f7a4 49 = .ok (.bipush 63, 2) := by decide +kernel
theorem dJ6_bitCount_0f7a4_51 : decode cJ6_bitCount_0f7a4 51 = .ok (.iand, 1) := by decide +kernel
theorem dJ6_bitCount_0f7a4_52 : decode cJ6_bitCount_0f7a4 52 = .ok (.ireturn, 1) := by decide +kernel
theorem dJ9_max_7cf53_0 : decode cJ9_max_7cf53 0 = .ok (.iload_n 0, 1) := by decide +kernel
theorem dJ9_max_7cf53_1 : decode cJ9_max_7cf53 1 = .ok (.iload_n 1, 1) := by decide +kernel
theorem dJ9_max_7cf53_2 : decode cJ9_max_7cf53 2 = .ok (.if_icmp .lt 7, 3) := by decide +kernel
theorem dJ9_max_7cf53_5 : decode cJ9_max_7cf53 5 = .ok (.iload_n 0, 1) := by decide +kernel
theorem dJ9_max_7cf53_6 : decode cJ9_max_7cf53 6 = .ok (.goto 4, 3) := by decide +kernel
theorem dJ9_max_7cf53_9 : decode cJ9_max_7cf53 9 = .ok (.iload_n 1, 1) := by decide +kernel
theorem dJ9_max_7cf53_10 : decode cJ9_max_7cf53 10 = .ok (.ireturn, 1) := by decide +kernel
theorem dJ9_min_7cf53_0 : decode cJ9_min_7cf53 0 = .ok (.iload_n 0, 1) := by decide +kernel
theorem dJ9_min_7cf53_1 : decode cJ9_min_7cf53 1 = .ok (.iload_n 1, 1) := by decide +kernel
theorem dJ9_min_7cf53_2 : decode cJ9_min_7cf53 2 = .ok (.if_icmp .gt 7, 3) := by decide +kernel
theorem dJ9_min_7cf53_5 : decode cJ9_min_7cf53 5 = .ok (.iload_n 0, 1) := by decide +kernel
theorem dJ9_min_7cf53_6 : decode cJ9_min_7cf53 6 = .ok (.goto 4, 3) := by decide +kernel
theorem dJ9_min_7cf53_9 : decode cJ9_min_7cf53 9 = .ok (.iload_n 1, 1) := by decide +kernel
theorem dJ9_min_7cf53_10 : decode cJ9_min_7cf53 10 = .ok (.ireturn, 1) := by decide +kernel
theorem dJ0_length_8abf5_0 : decode cJ0_length_8abf5 0 = .ok (.aload_n 0, 1) := by decide +kernel
theorem dJ0_length_8abf5_1 : decode cJ0_length_8abf5 1 = .ok (.getfield 9, 3) := by decide +kernel
theorem dJ0_length_8abf5_4 : decode cJ0_length_8abf5 4 = .ok (.arraylength, 1) := by decide +kernel
theorem dJ0_length_8abf5_5 : decode cJ0_length_8abf5 5 = .ok (.aload_n 0, 1) := by decide +kernel
theorem dJ0_length_8abf5_6 : decode cJ0_length_8abf5 6 = .ok (.invokevirtual 335, 3) := by decide +kernel
theorem dJ0_length_8abf5_9 : decode cJ0_length_8abf5 9 = .ok (.ishr, 1) := by decide +kernel
theorem dJ0_length_8abf5_10 : decode cJ0_length_8abf5 10 = .ok (.ireturn, 1) := by decide +kernel
theorem dJ0_charAt_5068e_0 : decode cJ0_charAt_5068e 0 = .ok (.aload_n 0, 1) := by decide +kernel
theorem dJ0_charAt_5068e_1 : decode cJ0_charAt_5068e 1 = .ok (.invokevirtual 492, 3) := by decide +kernel
theorem dJ0_charAt_5068e_4 : decode cJ0_charAt_5068e 4 = .ok (.ifCond .eq 12, 3) := by decide +kernel
theorem dJ0_charAt_5068e_7 : decode cJ0_charAt_5068e 7 = .ok (.aload_n 0, 1) := by decide +kernel
theorem dJ0_charAt_5068e_8 : decode cJ0_charAt_5068e 8 = .ok (.getfield 9, 3) := by decide +kernel
theorem dJ0_charAt_5068e_11 : decode cJ0_charAt_5068e 11 = .ok (.iload_n 1, 1) := by decide +kernel
theorem dJ0_charAt_5068e_12 : decode cJ0_charAt_5068e 12 = .ok (.invokestatic 495, 3) := by decide +kernel
theorem dJ0_charAt_5068e_15 : decode cJ0_charAt_5068e 15 = .ok (.ireturn, 1) := by decide +kernel
theorem dJ0_charAt_5068e_16 : decode cJ0_charAt_5068e 16 = .ok (.aload_n 0, 1) := by decide +kernel
theorem dJ0_charAt_5068e_17 : decode cJ0_charAt_5068e 17 = .ok (.getfield 9, 3) := by decide +kernel
theorem dJ0_charAt_5068e_20 : decode cJ0_charAt_5068e 20 = .ok (.iload_n 1, 1) := by decide +kernel
theorem dJ0_charAt_5068e_21 : decode cJ0_charAt_5068e 21 = .ok (.invokestatic 498, 3) := by decide +kernel
theorem dJ0_charAt_5068e_24 : decode cJ0_charAt_5068e 24 = .ok (.ireturn, 1) := by decide +kernel
theorem dJ0_indexOf_0f7a4_0 : decode cJ0_indexOf_0f7a4 0 = .ok (.aload_n 0, 1) := by decide +kernel
theorem dJ0_indexOf_0f7a4_1 : decode cJ0_indexOf_0f7a4 1 = .ok (.iload_n 1, 1) := by decide +kernel
theorem dJ0_indexOf_0f7a4_2 : decode cJ0_indexOf_0f7a4 2 = .ok (.iconst 0, 1) := by decide +kernel
theorem dJ0_indexOf_0f7a4_3 : decode cJ0_indexOf_0f7a4 3 = .ok (.invokevirtual 633, 3) := by decide +kernel
theorem dJ0_indexOf_0f7a4_6 : decode cJ0_indexOf_0f7a4 6 = .ok (.ireturn, 1) := by decide +kernel
theorem dJ0_indexOf_7cf53_0 : decode cJ0_indexOf_7cf53 0 = .ok (.aload_n 0, 1) := by decide +kernel
theorem dJ0_indexOf_7cf53_1 : decode cJ0_indexOf_7cf53 1 = .ok (.invokevirtual 492, 3) := by decide +kernel
theorem dJ0_indexOf_7cf53_4 : decode cJ0_indexOf_7cf53 4 = .ok (.ifCond .eq 19, 3) := by decide +kernel
theorem dJ0_indexOf_7cf53_7 : decode cJ0_indexOf_7cf53 7 = .ok (.aload_n 0, 1) := by decide +kernel
theorem dJ0_indexOf_7cf53_8 : decode cJ0_indexOf_7cf53 8 = .ok (.getfield 9, 3) := by decide +kernel
theorem dJ0_indexOf_7cf53_11 : decode cJ0_indexOf_7cf53 11 = .ok (.iload_n 1, 1) := by decide +kernel
theorem dJ0_indexOf_7cf53_12 : decode cJ0_indexOf_7cf53 12 = .ok (.iload_n 2, 1) := by decide +kernel
theorem dJ0_indexOf_7cf53_13 : decode cJ0_indexOf_7cf53 13 = .ok (.aload_n 0, 1) := by decide +kernel
theorem dJ0_indexOf_7cf53_14 : decode cJ0_indexOf_7cf53 14 = .ok (.invokevirtual 505, 3) := by decide +kernel
theorem dJ0_indexOf_7cf53_17 : decode cJ0_indexOf_7cf53 17 = .ok (.invokestatic 637, 3) := by decide +kernel
theorem dJ0_indexOf_7cf53_20 : decode cJ0_indexOf_7cf53 20 = .ok (.goto 16, 3) := by decide +kernel
theorem dJ0_indexOf_7cf53_23 : decode cJ0_indexOf_7cf53 23 = .ok (.aload_n 0, 1) := by decide +kernel
theorem dJ0_indexOf_7cf53_24 : decode cJ0_indexOf_7cf53 24 = .ok (.getfield 9, 3) := by decide +kernel
theorem dJ0_indexOf_7cf53_27 : decode cJ0_indexOf_7cf53 27 = .ok (.iload_n 1, 1) := by decide +kernel
theorem dJ0_indexOf_7cf53_28 : decode cJ0_indexOf_7cf53 28 = .ok (.iload_n 2, 1) := by decide +kernel
theorem dJ0_indexOf_7cf53_29 : decode cJ0_indexOf_7cf53 29 = .ok (.aload_n 0, 1) := by decide +kernel
theorem dJ0_indexOf_7cf53_30 : decode cJ0_indexOf_7cf53 30 = .ok (.invokevirtual 505, 3) := by decide +kernel
theorem dJ0_indexOf_7cf53_33 : decode cJ0_indexOf_7cf53 33 = .ok (.invokestatic 640, 3) := by decide +kernel
theorem dJ0_indexOf_7cf53_36 : decode cJ0_indexOf_7cf53 36 = .ok (.ireturn, 1) := by decide +kernel
theorem dJ0_coder_7d493_0 : decode cJ0_coder_7d493 0 = .ok (.getstatic 38, 3) := by decide +kernel
theorem dJ0_coder_7d493_3 : decode cJ0_coder_7d493 3 = .ok (.ifCond .eq 10, 3) := by decide +kernel
theorem dJ0_coder_7d493_6 : decode cJ0_coder_7d493 6 = .ok (.aload_n 0, 1) := by decide +kernel
theorem dJ0_coder_7d493_7 : decode cJ0_coder_7d493 7 = .ok (.getfield 15, 3) := by decide +kernel
theorem dJ0_coder_7d493_10 : decode cJ0_coder_7d493 10 = .ok (.goto 4, 3) := by decide +kernel
theorem dJ0_coder_7d493_13 : decode cJ0_coder_7d493 13 = .ok (.iconst 1, 1) := by decide +kernel
theorem dJ0_coder_7d493_14 : decode cJ0_coder_7d493 14 = .ok (.ireturn, 1) := by decide +kernel
theorem dJ0_isLatin1_aae02_0 : decode cJ0_isLatin1_aae02 0 = .ok (.getstatic 38, 3) := by decide +kernel
theorem dJ0_isLatin1_aae02_3 : decode cJ0_isLatin1_aae02 3 = .ok (.ifCond .eq 14, 3) := by decide +kernel
theorem dJ0_isLatin1_aae02_6 : decode cJ0_isLatin1_aae02 6 = .ok (.aload_n 0, 1) := by decide +kernel
theorem dJ0_isLatin1_aae02_7 : decode cJ0_isLatin1_aae02 7 = .ok (.getfield 15, 3) := by decide +kernel
theorem dJ0_isLatin1_aae02_10 : decode cJ0_isLatin1_aae02 10 = .ok (.ifCond .ne 7, 3) := by decide +kernel
theorem dJ0_isLatin1_aae02_13 : decode cJ0_isLatin1_aae02 13 = .ok (.iconst 1, 1) := by decide +kernel
theorem dJ0_isLatin1_aae02_14 : decode cJ0_isLatin1_aae02 14 = .ok (.goto 4, 3) := by decide +kernel
theorem dJ0_isLatin1_aae02_17 : decode cJ0_isLatin1_aae02 17 = .ok (.iconst 0, 1) := by decide +kernel
theorem dJ0_isLatin1_aae02_18 : decode cJ0_isLatin1_aae02 18 = .ok (.ireturn, 1) := by decide +kernel
theorem dJ0_checkIndex_df160_0 : decode cJ0_checkIndex_df160 0 = .ok (.iload_n 0, 1) := by decide +kernel
theorem dJ0_checkIndex_df160_1 : decode cJ0_checkIndex_df160 1 = .ok (.iload_n 1, 1) := by decide +kernel
theorem dJ0_checkIndex_df160_2 : decode cJ0_checkIndex_df160 2 = .ok (.getstatic 1053, 3) := by decide +kernel
theorem dJ0_checkIndex_df160_5 : decode cJ0_checkIndex_df160 5 = .ok (.invokestatic 1059, 3) := by decide +kernel
theorem dJ0_checkIndex_df160_8 : decode cJ0_checkIndex_df160 8 = .ok (.pop, 1) := by decide +kernel
theorem dJ0_checkIndex_df160_9 : decode cJ0_checkIndex_df160 9 = .ok (.return_, 1) := by decide +kernel
theorem dJ0_checkBoundsBeginEnd_23922_0 : decode cJ0_checkBoundsBeginEnd_23922 0 = .ok (.iload_n 0, 1) := by decide +kernel
theorem dJ0_checkBoundsBeginEnd_23922_1 : decode cJ0_checkBoundsBeginEnd_23922 1 = .ok (.iload_n 1, 1) := by decide +kernel
theorem dJ0_checkBoundsBeginEnd_23922_2 : decode cJ0_checkBoundsBeginEnd_23922 2 = .ok (.iload_n 2, 1) := by decide +kernel
theorem dJ0_checkBoundsBeginEnd_23922_3 : decode cJ0_checkBoundsBeginEnd_23922 3 = .ok (.getstatic 1053, 3) := by decide +kernel
theorem dJ0_checkBoundsBeginEnd_23922_6 : decode cJ0_checkBoundsBeginEnd_23922 6 = .ok (.invokestatic 1062, 3) := by decide +kernel
theorem dJ0_checkBoundsBeginEnd_23922_9 : decode cJ0_checkBoundsBeginEnd_23922 9 = .ok (.pop, 1) := by decide +kernel
theorem dJ0_checkBoundsBeginEnd_23922_10 : decode cJ0_checkBoundsBeginEnd_23922 10 = .ok (.return_, 1) := by decide +kernel
theorem dJ2_getChar_3b067_0 : decode cJ2_getChar_3b067 0 = .ok (.getstatic 44, 3) := by decide +kernel
theorem dJ2_getChar_3b067_3 : decode cJ2_getChar_3b067 3 = .ok (.ifCond .ne 25, 3) := by decide +kernel
theorem dJ2_getChar_3b067_6 : decode cJ2_getChar_3b067 6 = .ok (.iload_n 1, 1) := by decide +kernel
theorem dJ2_getChar_3b067_7 : decode cJ2_getChar_3b067 7 = .ok (.ifCond .lt 11, 3) := by decide +kernel
theorem dJ2_getChar_3b067_10 : decode cJ2_getChar_3b067 10 = .ok (.iload_n 1, 1) := by decide +kernel
theorem dJ2_getChar_3b067_11 : decode cJ2_getChar_3b067 11 = .ok (.aload_n 0, 1) := by decide +kernel
theorem dJ2_getChar_3b067_12 : decode cJ2_getChar_3b067 12 = .ok (.invokestatic 48, 3) := by decide +kernel
theorem dJ2_getChar_3b067_15 : decode cJ2_getChar_3b067 15 = .ok (.if_icmp .lt 13, 3) := by decide +kernel
theorem dJ2_getChar_3b067_18 : decode cJ2_getChar_3b067 18 = .ok (.new 52, 3) := by decide +kernel
theorem dJ2_getChar_3b067_21 : decode cJ2_getChar_3b067 21 = .ok (.dup, 1) := by decide +kernel
theorem dJ2_getChar_3b067_22 : decode cJ2_getChar_3b067 22 = .ok (.ldc 54, 2) := by decide +kernel
theorem dJ2_getChar_3b067_24 : decode cJ2_getChar_3b067 24 = .ok (.invokespecial 56, 3) := by decide +kernel
theorem dJ2_getChar_3b067_27 : decode cJ2_getChar_3b067 27 = .ok (.athrow, 1) := by decide +kernel
theorem dJ2_getChar_3b067_28 : decode cJ2_getChar_3b067 28 = .ok (.iload_n 1, 1) := by decide +kernel
theorem dJ2_getChar_3b067_29 : decode cJ2_getChar_3b067 29 = .ok (.iconst 1, 1) := by decide +kernel
theorem dJ2_getChar_3b067_30 : decode cJ2_getChar_3b067 30 = .ok (.ishl, 1) := by decide +kernel
theorem dJ2_getChar_3b067_31 : decode cJ2_getChar_3b067 31 = .ok (.istore_n 1, 1) := by decide +kernel
theorem dJ2_getChar_3b067_32 : decode cJ2_getChar_3b067 32 = .ok (.aload_n 0, 1) := by decide +kernel
theorem dJ2_getChar_3b067_33 : decode cJ2_getChar_3b067 33 = .ok (.iload_n 1, 1) := by decide +kernel
theorem dJ2_getChar_3b067_34 : decode cJ2_getChar_3b067 34 = .ok (.iinc 1 1, 3) := by decide +kernel
theorem dJ2_getChar_3b067_37 : decode cJ2_getChar_3b067 37 = .ok (.baload, 1) := by decide +kernel
theorem dJ2_getChar_3b067_38 : decode cJ2_getChar_3b067 38 = .ok (.sipush 255, 3) := by decide +kernel
theorem dJ2_getChar_3b067_41 : decode cJ2_getChar_3b067 41 = .ok (.iand, 1) := by decide +kernel
theorem dJ2_getChar_3b067_42 : decode cJ2_getChar_3b067 42 = .ok (.getstatic 59, 3) := by decide +kernel
theorem dJ2_getChar_3b067_45 : decode cJ2_getChar_3b067 45 = .ok (.ishl, 1) := by decide +kernel
theorem dJ2_getChar_3b067_46 : decode cJ2_getChar_3b067 46 = .ok (.aload_n 0, 1) := by decide +kernel
theorem dJ2_getChar_3b067_47 : decode cJ2_getChar_3b067 47 = .ok (.iload_n 1, 1) := by decide +kernel
theorem dJ2_getChar_3b067_48 : decode cJ2_getChar_3b067 48 = .ok (.baload, 1) := by decide +kernel
theorem dJ2_getChar_3b067_49 : decode cJ2_getChar_3b067 49 = .ok (.sipush 255, 3) := by decide +kernel
theorem dJ2_getChar_3b067_52 : decode cJ2_getChar_3b067 52 = .ok (.iand, 1) := by decide +kernel
theorem dJ2_getChar_3b067_53 : decode cJ2_getChar_3b067 53 = .ok (.getstatic 63, 3) := by decide +kernel
theorem dJ2_getChar_3b067_56 : decode cJ2_getChar_3b067 56 = .ok (.ishl, 1) := by decide +kernel
theorem dJ2_getChar_3b067_57 : decode cJ2_getChar_3b067 57 = .ok (.ior, 1) := by decide +kernel
theorem dJ2_getChar_3b067_58 : decode cJ2_getChar_3b067 58 = .ok (.i2c, 1) := by decide +kernel
theorem dJ2_getChar_3b067_59 : decode cJ2_getChar_3b067 59 = .ok (.ireturn, 1) := by decide +kernel
theorem dJ2_length_9d52b_0 : decode cJ2_length_9d52b 0 = .ok (.aload_n 0, 1) := by decide +kernel
theorem dJ2_length_9d52b_1 : decode cJ2_length_9d52b 1 = .ok (.arraylength, 1) := by decide +kernel
theorem dJ2_length_9d52b_2 : decode cJ2_length_9d52b 2 = .ok (.iconst 1, 1) := by decide +kernel
theorem dJ2_length_9d52b_3 : decode cJ2_length_9d52b 3 = .ok (.ishr, 1) := by decide +kernel
theorem dJ2_length_9d52b_4 : decode cJ2_length_9d52b 4 = .ok (.ireturn, 1) := by decide +kernel
theorem dJ2_indexOf_4cfef_0 : decode cJ2_indexOf_4cfef 0 = .ok (.iload_n 2, 1) := by decide +kernel
theorem dJ2_indexOf_4cfef_1 : decode cJ2_indexOf_4cfef 1 = .ok (.iconst 0, 1) := by decide +kernel
theorem dJ2_indexOf_4cfef_2 : decode cJ2_indexOf_4cfef 2 = .ok (.invokestatic 224, 3) := by decide +kernel
theorem dJ2_indexOf_4cfef_5 : decode cJ2_indexOf_4cfef 5 = .ok (.istore_n 2, 1) := by decide +kernel
theorem dJ2_indexOf_4cfef_6 : decode cJ2_indexOf_4cfef 6 = .ok (.iload_n 3, 1) := by decide +kernel
theorem dJ2_indexOf_4cfef_7 : decode cJ2_indexOf_4cfef 7 = .ok (.aload_n 0, 1) := by decide +kernel
theorem dJ2_indexOf_4cfef_8 : decode cJ2_indexOf_4cfef 8 = .ok (.arraylength, 1) := by decide +kernel
theorem dJ2_indexOf_4cfef_9 : decode cJ2_indexOf_4cfef 9 = .ok (.iconst 1, 1) := by decide +kernel
theorem dJ2_indexOf_4cfef_10 : decode cJ2_indexOf_4cfef 10 = .ok (.ishr, 1) := by decide +kernel
theorem dJ2_indexOf_4cfef_11 : decode cJ2_indexOf_4cfef 11 = .ok (.invokestatic 183, 3) := by decide +kernel
theorem dJ2_indexOf_4cfef_14 : decode cJ2_indexOf_4cfef 14 = .ok (.istore_n 3, 1) := by decide +kernel
theorem dJ2_indexOf_4cfef_15 : decode cJ2_indexOf_4cfef 15 = .ok (.iload_n 2, 1) := by decide +kernel
theorem dJ2_indexOf_4cfef_16 : decode cJ2_indexOf_4cfef 16 = .ok (.iload_n 3, 1) := by decide +kernel
theorem dJ2_indexOf_4cfef_17 : decode cJ2_indexOf_4cfef 17 = .ok (.if_icmp .lt 5, 3) := by decide +kernel
theorem dJ2_indexOf_4cfef_20 : decode cJ2_indexOf_4cfef 20 = .ok (.iconst (-1), 1) := by decide +kernel
theorem dJ2_indexOf_4cfef_21 : decode cJ2_indexOf_4cfef 21 = .ok (.ireturn, 1) := by decide +kernel
theorem dJ2_indexOf_4cfef_22 : decode cJ2_indexOf_4cfef 22 = .ok (.iload_n 1, 1) := by decide +kernel
theorem dJ2_indexOf_4cfef_23 : decode cJ2_indexOf_4cfef 23 = .ok (.ldc 227, 2) := by decide +kernel
theorem dJ2_indexOf_4cfef_25 : decode cJ2_indexOf_4cfef 25 = .ok (.if_icmp .ge 11, 3) := by decide +kernel
theorem dJ2_indexOf_4cfef_28 : decode cJ2_indexOf_4cfef 28 = .ok (.aload_n 0, 1) := by decide +kernel
theorem dJ2_indexOf_4cfef_29 : decode cJ2_indexOf_4cfef 29 = .ok (.iload_n 1, 1) := by decide +kernel
theorem dJ2_indexOf_4cfef_30 : decode cJ2_indexOf_4cfef 30 = .ok (.iload_n 2, 1) := by decide +kernel
theorem dJ2_indexOf_4cfef_31 : decode cJ2_indexOf_4cfef 31 = .ok (.iload_n 3, 1) := by decide +kernel
theorem dJ2_indexOf_4cfef_32 : decode cJ2_indexOf_4cfef 32 = .ok (.invokestatic 228, 3) := by decide +kernel
theorem dJ2_indexOf_4cfef_35 : decode cJ2_indexOf_4cfef 35 = .ok (.ireturn, 1) := by decide +kernel
theorem dJ2_indexOf_4cfef_36 : decode cJ2_indexOf_4cfef 36 = .ok (.aload_n 0, 1) := by decide +kernel
theorem dJ2_indexOf_4cfef_37 : decode cJ2_indexOf_4cfef 37 = .ok (.iload_n 1, 1) := by decide +kernel
theorem dJ2_indexOf_4cfef_38 : decode cJ2_indexOf_4cfef 38 = .ok (.iload_n 2, 1) := by decide +kernel
theorem dJ2_indexOf_4cfef_39 : decode cJ2_indexOf_4cfef 39 = .ok (.iload_n 3, 1) := by decide +kernel
theorem dJ2_indexOf_4cfef_40 : decode cJ2_indexOf_4cfef 40 = .ok (.invokestatic 232, 3) := by decide +kernel
theorem dJ2_indexOf_4cfef_43 : decode cJ2_indexOf_4cfef 43 = .ok (.ireturn, 1) := by decide +kernel
theorem dJ2_indexOfChar_4cfef_0 : decode cJ2_indexOfChar_4cfef 0 = .ok (.iload_n 2, 1) := by decide +kernel
theorem dJ2_indexOfChar_4cfef_1 : decode cJ2_indexOfChar_4cfef 1 = .ok (.iload_n 3, 1) := by decide +kernel
theorem dJ2_indexOfChar_4cfef_2 : decode cJ2_indexOfChar_4cfef 2 = .ok (.aload_n 0, 1) := by decide +kernel
theorem dJ2_indexOfChar_4cfef_3 : decode cJ2_indexOfChar_4cfef 3 = .ok (.invokestatic 96, 3) := by decide +kernel
theorem dJ2_indexOfChar_4cfef_6 : decode cJ2_indexOfChar_4cfef 6 = .ok (.aload_n 0, 1) := by decide +kernel
theorem dJ2_indexOfChar_4cfef_7 : decode cJ2_indexOfChar_4cfef 7 = .ok (.iload_n 1, 1) := by decide +kernel
theorem dJ2_indexOfChar_4cfef_8 : decode cJ2_indexOfChar_4cfef 8 = .ok (.iload_n 2, 1) := by decide +kernel
theorem dJ2_indexOfChar_4cfef_9 : decode cJ2_indexOfChar_4cfef 9 = .ok (.iload_n 3, 1) := by decide +kernel
theorem dJ2_indexOfChar_4cfef_10 : decode cJ2_indexOfChar_4cfef 10 = .ok (.invokestatic 244, 3) := by decide +kernel
theorem dJ2_indexOfChar_4cfef_13 : decode cJ2_indexOfChar_4cfef 13 = .ok (.ireturn, 1) := by decide +kernel
theorem dJ2_indexOfCharUnsafe_4cfef_0 : decode cJ2_indexOfCharUnsafe_4cfef 0 = .ok (.iload_n 2, 1) := by decide +kernel
theorem dJ2_indexOfCharUnsafe_4cfef_1 : decode cJ2_indexOfCharUnsafe_4cfef 1 = .ok (.istore 4, 2) := by decide +kernel
theorem dJ2_indexOfCharUnsafe_4cfef_3 : decode cJ2_indexOfCharUnsafe_4cfef 3 = .ok (.iload 4, 2) := by decide +kernel
theorem dJ2_indexOfCharUnsafe_4cfef_5 : decode cJ2_indexOfCharUnsafe_4cfef 5 = .ok (.iload_n 3, 1) := by decide +kernel
theorem dJ2_indexOfCharUnsafe_4cfef_6 : decode cJ2_indexOfCharUnsafe_4cfef 6 = .ok (.if_icmp .ge 22, 3) := by decide +kernel
theorem dJ2_indexOfCharUnsafe_4cfef_9 : decode cJ2_indexOfCharUnsafe_4cfef 9 = .ok (.aload_n 0, 1) := by decide +kernel
theorem dJ2_indexOfCharUnsafe_4cfef_10 : decode cJ2_indexOfCharUnsafe_4cfef 10 = .ok (.iload 4, 2) := by decide +kernel
theorem dJ2_indexOfCharUnsafe_4cfef_12 : decode cJ2_indexOfCharUnsafe_4cfef 12 = .ok (.invokestatic 71, 3) := by decide +kernel
theorem dJ2_indexOfCharUnsafe_4cfef_15 : decode cJ2_indexOfCharUnsafe_4cfef 15 = .ok (.iload_n 1, 1) := by decide +kernel
theorem dJ2_indexOfCharUnsafe_4cfef_16 : decode cJ2_indexOfCharUnsafe_4cfef 16 = .ok (.if_icmp .ne 6, 3) := by decide +kernel
theorem dJ2_indexOfCharUnsafe_4cfef_19 : decode cJ2_indexOfCharUnsafe_4cfef 19 = .ok (.iload 4, 2) := by decide +kernel
theorem dJ2_indexOfCharUnsafe_4cfef_21 : decode cJ2_indexOfCharUnsafe_4cfef 21 = .ok (.ireturn, 1) := by decide +kernel
theorem dJ2_indexOfCharUnsafe_4cfef_22 : decode cJ2_indexOfCharUnsafe_4cfef 22 = .ok (.iinc 4 1, 3) := by decide +kernel
theorem dJ2_indexOfCharUnsafe_4cfef_25 : decode cJ2_indexOfCharUnsafe_4cfef 25 = .ok (.goto (-22), 3) := by decide +kernel
theorem dJ2_indexOfCharUnsafe_4cfef_28 : decode cJ2_indexOfCharUnsafe_4cfef 28 = .ok (.iconst (-1), 1) := by decide +kernel
theorem dJ2_indexOfCharUnsafe_4cfef_29 : decode cJ2_indexOfCharUnsafe_4cfef 29 = .ok (.ireturn, 1) := by decide +kernel
theorem dJ2_indexOfSupplementary_4cfef_0 : decode cJ2_indexOfSupplementary_4cfef 0 = .ok (.iload_n 1, 1) := by decide +kernel
theorem dJ2_indexOfSupplementary_4cfef_1 : decode cJ2_indexOfSupplementary_4cfef 1 = .ok (.invokestatic 164, 3) := by decide +kernel
theorem dJ2_indexOfSupplementary_4cfef_4 : decode cJ2_indexOfSupplementary_4cfef 4 = .ok (.ifCond .eq 65, 3) := by decide +kernel
theorem dJ2_indexOfSupplementary_4cfef_7 : decode cJ2_indexOfSupplementary_4cfef 7 = .ok (.iload_n 1, 1) := by decide +kernel
theorem dJ2_indexOfSupplementary_4cfef_8 : decode cJ2_indexOfSupplementary_4cfef 8 = .ok (.invokestatic 157, 3) := by decide +kernel
theorem dJ2_indexOfSupplementary_4cfef_11 : decode cJ2_indexOfSupplementary_4cfef 11 = .ok (.istore 4, 2) := by decide +kernel
theorem dJ2_indexOfSupplementary_4cfef_13 : decode cJ2_indexOfSupplementary_4cfef 13 = .ok (.iload_n 1, 1) := by decide +kernel
theorem dJ2_indexOfSupplementary_4cfef_14 : decode cJ2_indexOfSupplementary_4cfef 14 = .ok (.invokestatic 161, 3) := by decide +kernel
theorem dJ2_indexOfSupplementary_4cfef_17 : decode cJ2_indexOfSupplementary_4cfef 17 = .ok (.istore 5, 2) := by decide +kernel
theorem dJ2_indexOfSupplementary_4cfef_19 : decode cJ2_indexOfSupplementary_4cfef 19 = .ok (.iload_n 2, 1) := by decide +kernel
theorem dJ2_indexOfSupplementary_4cfef_20 : decode cJ2_indexOfSupplementary_4cfef 20 = .ok (.iload_n 3, 1) := by decide +kernel
theorem dJ2_indexOfSupplementary_4cfef_21 : decode cJ2_indexOfSupplementary_4cfef 21 = .ok (.aload_n 0, 1) := by decide +kernel
theorem dJ2_indexOfSupplementary_4cfef_22 : decode cJ2_indexOfSupplementary_4cfef 22 = .ok (.invokestatic 96, 3) := by decide +kernel
theorem dJ2_indexOfSupplementary_4cfef_25 : decode cJ2_indexOfSupplementary_4cfef 25 = .ok (.iload_n 2, 1) := by decide +kernel
theorem dJ2_indexOfSupplementary_4cfef_26 : decode cJ2_indexOfSupplementary_4cfef 26 = .ok (.istore 6, 2) := by decide +kernel
theorem dJ2_indexOfSupplementary_4cfef_28 : decode cJ2_indexOfSupplementary_4cfef 28 = .ok (.iload 6, 2) := by decide +kernel
theorem dJ2_indexOfSupplementary_4cfef_30 : decode cJ2_indexOfSupplementary_4cfef 30 = .ok (.iload_n 3, 1) := by decide +kernel
theorem dJ2_indexOfSupplementary_4cfef_31 : decode cJ2_indexOfSupplementary_4cfef 31 = .ok (.iconst 1, 1) := by decide +kernel
theorem dJ2_indexOfSupplementary_4cfef_32 : decode cJ2_indexOfSupplementary_4cfef 32 = .ok (.isub, 1) := by decide +kernel
theorem dJ2_indexOfSupplementary_4cfef_33 : decode cJ2_indexOfSupplementary_4cfef 33 = .ok (.if_icmp .ge 36, 3) := by decide +kernel
theorem dJ2_indexOfSupplementary_4cfef_36 : decode cJ2_indexOfSupplementary_4cfef 36 = .ok (.aload_n 0, 1) := by decide +kernel
theorem dJ2_indexOfSupplementary_4cfef_37 : decode cJ2_indexOfSupplementary_4cfef 37 = .ok (.iload 6, 2) := by decide +kernel
theorem dJ2_indexOfSupplementary_4cfef_39 : decode cJ2_indexOfSupplementary_4cfef 39 = .ok (.invokestatic 71, 3) := by decide +kernel
theorem dJ2_indexOfSupplementary_4cfef_42 : decode cJ2_indexOfSupplementary_4cfef 42 = .ok (.iload 4, 2) := by decide +kernel
theorem dJ2_indexOfSupplementary_4cfef_44 : decode cJ2_indexOfSupplementary_4cfef 44 = .ok (.if_icmp .ne 19, 3) := by decide +kernel
theorem dJ2_indexOfSupplementary_4cfef_47 : decode cJ2_indexOfSupplementary_4cfef 47 = .ok (.aload_n 0, 1) := by decide +kernel
theorem dJ2_indexOfSupplementary_4cfef_48 : decode cJ2_indexOfSupplementary_4cfef 48 = .ok (.iload 6, 2) := by decide +kernel
theorem dJ2_indexOfSupplementary_4cfef_50 : decode cJ2_indexOfSupplementary_4cfef 50 = .ok (.iconst 1, 1) := by decide +kernel
theorem dJ2_indexOfSupplementary_4cfef_51 : decode cJ2_indexOfSupplementary_4cfef 51 = .ok (.iadd, 1) := by decide +kernel
theorem dJ2_indexOfSupplementary_4cfef_52 : decode cJ2_indexOfSupplementary_4cfef 52 = .ok (.invokestatic 71, 3) := by decide +kernel
theorem dJ2_indexOfSupplementary_4cfef_55 : decode cJ2_indexOfSupplementary_4cfef 55 = .ok (.iload 5, 2) := by decide +kernel
theorem dJ2_indexOfSupplementary_4cfef_57 : decode cJ2_indexOfSupplementary_4cfef 57 = .ok (.if_icmp .ne 6, 3) := by decide +kernel
theorem dJ2_indexOfSupplementary_4cfef_60 : decode cJ2_indexOfSupplementary_4cfef 60 = .ok (.iload 6, 2) := by decide +kernel
theorem dJ2_indexOfSupplementary_4cfef_62 : decode cJ2_indexOfSupplementary_4cfef 62 = .ok (.ireturn, 1) := by decide +kernel
theorem dJ2_indexOfSupplementary_4cfef_63 : decode cJ2_indexOfSupplementary_4cfef 63 = .ok (.iinc 6 1, 3) := by decide +kernel
theorem dJ2_indexOfSupplementary_4cfef_66 : decode cJ2_indexOfSupplementary_4cfef 66 = .ok (.goto (-38), 3) := by decide +kernel
theorem dJ2_indexOfSupplementary_4cfef_69 : decode cJ2_indexOfSupplementary_4cfef 69 = .ok (.iconst (-1), 1) := by decide +kernel
theorem dJ2_indexOfSupplementary_4cfef_70 : decode cJ2_indexOfSupplementary_4cfef 70 = .ok (.ireturn, 1) := by decide +kernel
theorem dJ2_charAt_3b067_0 : decode cJ2_charAt_3b067 0 = .ok (.iload_n 1, 1) := by decide +kernel
theorem dJ2_charAt_3b067_1 : decode cJ2_charAt_3b067 1 = .ok (.aload_n 0, 1) := by decide +kernel
theorem dJ2_charAt_3b067_2 : decode cJ2_charAt_3b067 2 = .ok (.invokestatic 67, 3) := by decide +kernel
theorem dJ2_charAt_3b067_5 : decode cJ2_charAt_3b067 5 = .ok (.aload_n 0, 1) := by decide +kernel
theorem dJ2_charAt_3b067_6 : decode cJ2_charAt_3b067 6 = .ok (.iload_n 1, 1) := by decide +kernel
theorem dJ2_charAt_3b067_7 : decode cJ2_charAt_3b067 7 = .ok (.invokestatic 71, 3) := by decide +kernel
theorem dJ2_charAt_3b067_10 : decode cJ2_charAt_3b067 10 = .ok (.ireturn, 1) := by decide +kernel
theorem dJ2_checkIndex_2214a_0 : decode cJ2_checkIndex_2214a 0 = .ok (.iload_n 0, 1) := by decide +kernel
theorem dJ2_checkIndex_2214a_1 : decode cJ2_checkIndex_2214a 1 = .ok (.aload_n 1, 1) := by decide +kernel
theorem dJ2_checkIndex_2214a_2 : decode cJ2_checkIndex_2214a 2 = .ok (.invokestatic 48, 3) := by decide +kernel
theorem dJ2_checkIndex_2214a_5 : decode cJ2_checkIndex_2214a 5 = .ok (.invokestatic 414, 3) := by decide +kernel
theorem dJ2_checkIndex_2214a_8 : decode cJ2_checkIndex_2214a 8 = .ok (.return_, 1) := by decide +kernel
theorem dJ2_checkBoundsBeginEnd_d044e_0 : decode cJ2_checkBoundsBeginEnd_d044e 0 = .ok (.iload_n 0, 1) := by decide +kernel
theorem dJ2_checkBoundsBeginEnd_d044e_1 : decode cJ2_checkBoundsBeginEnd_d044e 1 = .ok (.iload_n 1, 1) := by decide +kernel
theorem dJ2_checkBoundsBeginEnd_d044e_2 : decode cJ2_checkBoundsBeginEnd_d044e 2 = .ok (.aload_n 2, 1) := by decide +kernel
theorem dJ2_checkBoundsBeginEnd_d044e_3 : decode cJ2_checkBoundsBeginEnd_d044e 3 = .ok (.invokestatic 48, 3) := by decide +kernel
theorem dJ2_checkBoundsBeginEnd_d044e_6 : decode cJ2_checkBoundsBeginEnd_d044e 6 = .ok (.invokestatic 241, 3) := by decide +kernel
theorem dJ2_checkBoundsBeginEnd_d044e_9 : decode cJ2_checkBoundsBeginEnd_d044e 9 = .ok (.return_, 1) := by decide +kernel
theorem dJ7_fill_53178_0 : decode cJ7_fill_53178 0 = .ok (.iconst 0, 1) := by decide +kernel
theorem dJ7_fill_53178_1 : decode cJ7_fill_53178 1 = .ok (.istore_n 2, 1) := by decide +kernel
theorem dJ7_fill_53178_2 : decode cJ7_fill_53178 2 = .ok (.aload_n 0, 1) := by decide +kernel
theorem dJ7_fill_53178_3 : decode cJ7_fill_53178 3 = .ok (.arraylength, 1) := by decide +kernel
theorem dJ7_fill_53178_4 : decode cJ7_fill_53178 4 = .ok (.istore_n 3, 1) := by decide +kernel
theorem dJ7_fill_53178_5 : decode cJ7_fill_53178 5 = .ok (.iload_n 2, 1) := by decide +kernel
theorem dJ7_fill_53178_6 : decode cJ7_fill_53178 6 = .ok (.iload_n 3, 1) := by decide +kernel
theorem dJ7_fill_53178_7 : decode cJ7_fill_53178 7 = .ok (.if_icmp .ge 13, 3) := by decide +kernel
theorem dJ7_fill_53178_10 : decode cJ7_fill_53178 10 = .ok (.aload_n 0, 1) := by decide +kernel
theorem dJ7_fill_53178_11 : decode cJ7_fill_53178 11 = .ok (.iload_n 2, 1) := by decide +kernel
theorem dJ7_fill_53178_12 : decode cJ7_fill_53178 12 = .ok (.iload_n 1, 1) := by decide +kernel
theorem dJ7_fill_53178_13 : decode cJ7_fill_53178 13 = .ok (.iastore, 1) := by decide +kernel
theorem dJ7_fill_53178_14 : decode cJ7_fill_53178 14 = .ok (.iinc 2 1, 3) := by decide +kernel
theorem dJ7_fill_53178_17 : decode cJ7_fill_53178 17 = .ok (.goto (-12), 3) := by decide +kernel
theorem dJ7_fill_53178_20 : decode cJ7_fill_53178 20 = .ok (.return_, 1) := by decide +kernel
theorem dJ3_checkIndex_8e157_0 : decode cJ3_checkIndex_8e157 0 = .ok (.iload_n 0, 1) := by decide +kernel
theorem dJ3_checkIndex_8e157_1 : decode cJ3_checkIndex_8e157 1 = .ok (.ifCond .lt 8, 3) := by decide +kernel
theorem dJ3_checkIndex_8e157_4 : decode cJ3_checkIndex_8e157 4 = .ok (.iload_n 0, 1) := by decide +kernel
theorem dJ3_checkIndex_8e157_5 : decode cJ3_checkIndex_8e157 5 = .ok (.iload_n 1, 1) := by decide +kernel
theorem dJ3_checkIndex_8e157_6 : decode cJ3_checkIndex_8e157 6 = .ok (.if_icmp .lt 10, 3) := by decide +kernel
theorem dJ3_checkIndex_8e157_9 : decode cJ3_checkIndex_8e157 9 = .ok (.aload_n 2, 1) := by decide +kernel
theorem dJ3_checkIndex_8e157_10 : decode cJ3_checkIndex_8e157 10 = .ok (.iload_n 0, 1) := by decide +kernel
theorem dJ3_checkIndex_8e157_11 : decode cJ3_checkIndex_8e157 11 = .ok (.iload_n 1, 1) := by decide +kernel
theorem dJ3_checkIndex_8e157_12 : decode cJ3_checkIndex_8e157 12 = .ok (.invokestatic 95, 3) := by decide +kernel
theorem dJ3_checkIndex_8e157_15 : decode cJ3_checkIndex_8e157 15 = .ok (.athrow, 1) := by decide +kernel
theorem dJ3_checkIndex_8e157_16 : decode cJ3_checkIndex_8e157 16 = .ok (.iload_n 0, 1) := by decide +kernel
theorem dJ3_checkIndex_8e157_17 : decode cJ3_checkIndex_8e157 17 = .ok (.ireturn, 1) := by decide +kernel
theorem dJ3_checkFromToIndex_8c36e_0 : decode cJ3_checkFromToIndex_8c36e 0 = .ok (.iload_n 0, 1) := by decide +kernel
theorem dJ3_checkFromToIndex_8c36e_1 : decode cJ3_checkFromToIndex_8c36e 1 = .ok (.ifCond .lt 13, 3) := by decide +kernel
theorem dJ3_checkFromToIndex_8c36e_4 : decode cJ3_checkFromToIndex_8c36e 4 = .ok (.iload_n 0, 1) := by decide +kernel
theorem dJ3_checkFromToIndex_8c36e_5 : decode cJ3_checkFromToIndex_8c36e 5 = .ok (.iload_n 1, 1) := by decide +kernel
theorem dJ3_checkFromToIndex_8c36e_6 : decode cJ3_checkFromToIndex_8c36e 6 = .ok (.if_icmp .gt 8, 3) := by decide +kernel
theorem dJ3_checkFromToIndex_8c36e_9 : decode cJ3_checkFromToIndex_8c36e 9 = .ok (.iload_n 1, 1) := by decide +kernel
theorem dJ3_checkFromToIndex_8c36e_10 : decode cJ3_checkFromToIndex_8c36e 10 = .ok (.iload_n 2, 1) := by decide +kernel
theorem dJ3_checkFromToIndex_8c36e_11 : decode cJ3_checkFromToIndex_8c36e 11 = .ok (.if_icmp .le 11, 3) := by decide +kernel
theorem dJ3_checkFromToIndex_8c36e_14 : decode cJ3_checkFromToIndex_8c36e 14 = .ok (.aload_n 3, 1) := by decide +kernel
theorem dJ3_checkFromToIndex_8c36e_15 : decode cJ3_checkFromToIndex_8c36e 15 = .ok (.iload_n 0, 1) := by decide +kernel
theorem dJ3_checkFromToIndex_8c36e_16 : decode cJ3_checkFromToIndex_8c36e 16 = .ok (.iload_n 1, 1) := by decide +kernel
theorem dJ3_checkFromToIndex_8c36e_17 : decode cJ3_checkFromToIndex_8c36e 17 = .ok (.iload_n 2, 1) := by decide +kernel
theorem dJ3_checkFromToIndex_8c36e_18 : decode cJ3_checkFromToIndex_8c36e 18 = .ok (.invokestatic 99, 3) := by decide +kernel
theorem dJ3_checkFromToIndex_8c36e_21 : decode cJ3_checkFromToIndex_8c36e 21 = .ok (.athrow, 1) := by decide +kernel
theorem dJ3_checkFromToIndex_8c36e_22 : decode cJ3_checkFromToIndex_8c36e 22 = .ok (.iload_n 0, 1) := by decide +kernel
theorem dJ3_checkFromToIndex_8c36e_23 : decode cJ3_checkFromToIndex_8c36e 23 = .ok (.ireturn, 1) := by decide +kernel
