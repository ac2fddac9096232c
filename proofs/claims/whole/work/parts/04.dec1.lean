theorem dX0_encode_0 : decode cX0_encode 0 = .ok (.bipush 8, 2) := by decide +kernel
theorem dX0_encode_2 : decode cX0_encode 2 = .ok (.iload_n 1, 1) := by decide +kernel
theorem dX0_encode_3 : decode cX0_encode 3 = .ok (.imul, 1) := by decide +kernel
theorem dX0_encode_4 : decode cX0_encode 4 = .ok (.iconst 5, 1) := by decide +kernel
theorem dX0_encode_5 : decode cX0_encode 5 = .ok (.iadd, 1) := by decide +kernel
theorem dX0_encode_6 : decode cX0_encode 6 = .ok (.bipush 6, 2) := by decide +kernel
theorem dX0_encode_8 : decode cX0_encode 8 = .ok (.idiv, 1) := by decide +kernel
theorem dX0_encode_9 : decode cX0_encode 9 = .ok (.istore_n 3, 1) := by decide +kernel
theorem dX0_encode_10 : decode cX0_encode 10 = .ok (.aload_n 2, 1) := by decide +kernel
theorem dX0_encode_11 : decode cX0_encode 11 = .ok (.iconst 0, 1) := by decide +kernel
theorem dX0_encode_12 : decode cX0_encode 12 = .ok (.putfield 9, 3) := by decide +kernel
theorem dX0_encode_15 : decode cX0_encode 15 = .ok (.iconst 0, 1) := by decide +kernel
theorem dX0_encode_16 : decode cX0_encode 16 = .ok (.istore 4, 2) := by decide +kernel
theorem dX0_encode_18 : decode cX0_encode 18 = .ok (.iload 4, 2) := by decide +kernel
theorem dX0_encode_20 : decode cX0_encode 20 = .ok (.iload_n 3, 1) := by decide +kernel
theorem dX0_encode_21 : decode cX0_encode 21 = .ok (.if_icmp .ge 78, 3) := by decide +kernel
theorem dX0_encode_24 : decode cX0_encode 24 = .ok (.bipush 6, 2) := by decide +kernel
theorem dX0_encode_26 : decode cX0_encode 26 = .ok (.iload 4, 2) := by decide +kernel
theorem dX0_encode_28 : decode cX0_encode 28 = .ok (.imul, 1) := by decide +kernel
theorem dX0_encode_29 : decode cX0_encode 29 = .ok (.istore 5, 2) := by decide +kernel
theorem dX0_encode_31 : decode cX0_encode 31 = .ok (.iload 5, 2) := by decide +kernel
theorem dX0_encode_33 : decode cX0_encode 33 = .ok (.bipush 8, 2) := by decide +kernel
theorem dX0_encode_35 : decode cX0_encode 35 = .ok (.idiv, 1) := by decide +kernel
theorem dX0_encode_36 : decode cX0_encode 36 = .ok (.istore 6, 2) := by decide +kernel
theorem dX0_encode_38 : decode cX0_encode 38 = .ok (.iload 6, 2) := by decide +kernel
theorem dX0_encode_40 : decode cX0_encode 40 = .ok (.iconst 1, 1) := by decide +kernel
theorem dX0_encode_41 : decode cX0_encode 41 = .ok (.iadd, 1) := by decide +kernel
theorem dX0_encode_42 : decode cX0_encode 42 = .ok (.iload_n 1, 1) := by decide +kernel
theorem dX0_encode_43 : decode cX0_encode 43 = .ok (.if_icmp .ge 12, 3) := by decide +kernel
theorem dX0_encode_46 : decode cX0_encode 46 = .ok (.aload_n 0, 1) := by decide +kernel
theorem dX0_encode_47 : decode cX0_encode 47 = .ok (.iload 6, 2) := by decide +kernel
theorem dX0_encode_49 : decode cX0_encode 49 = .ok (.iconst 1, 1) := by decide +kernel
theorem dX0_encode_50 : decode cX0_encode 50 = .ok (.iadd, 1) := by decide +kernel
theorem dX0_encode_51 : decode cX0_encode 51 = .ok (.iaload, 1) := by decide +kernel
theorem dX0_encode_52 : decode cX0_encode 52 = .ok (.goto 4, 3) := by decide +kernel
theorem dX0_encode_55 : decode cX0_encode 55 = .ok (.iconst 0, 1) := by decide +kernel
theorem dX0_encode_56 : decode cX0_encode 56 = .ok (.istore 7, 2) := by decide +kernel
theorem dX0_encode_58 : decode cX0_encode 58 = .ok (.aload_n 0, 1) := by decide +kernel
theorem dX0_encode_59 : decode cX0_encode 59 = .ok (.iload 6, 2) := by decide +kernel
theorem dX0_encode_61 : decode cX0_encode 61 = .ok (.iaload, 1) := by decide +kernel
theorem dX0_encode_62 : decode cX0_encode 62 = .ok (.bipush 8, 2) := by decide +kernel
theorem dX0_encode_64 : decode cX0_encode 64 = .ok (.ishl, 1) := by decide +kernel
theorem dX0_encode_65 : decode cX0_encode 65 = .ok (.iload 7, 2) := by decide +kernel
theorem dX0_encode_67 : decode cX0_encode 67 = .ok (.ior, 1) := by decide +kernel
theorem dX0_encode_68 : decode cX0_encode 68 = .ok (.istore 8, 2) := by decide +kernel
theorem dX0_encode_70 : decode cX0_encode 70 = .ok (.aload_n 2, 1) := by decide +kernel
theorem dX0_encode_71 : decode cX0_encode 71 = .ok (.ldc 17, 2) := by decide +kernel
theorem dX0_encode_73 : decode cX0_encode 73 = .ok (.iload 8, 2) := by decide +kernel
theorem dX0_encode_75 : decode cX0_encode 75 = .ok (.bipush 10, 2) := by decide +kernel
theorem dX0_encode_77 : decode cX0_encode 77 = .ok (.iload 5, 2) := by decide +kernel
theorem dX0_encode_79 : decode cX0_encode 79 = .ok (.bipush 8, 2) := by decide +kernel
theorem dX0_encode_81 : decode cX0_encode 81 = .ok (.irem, 1) := by decide +kernel
theorem dX0_encode_82 : decode cX0_encode 82 = .ok (.isub, 1) := by decide +kernel
theorem dX0_encode_83 : decode cX0_encode 83 = .ok (.iushr, 1) := by decide +kernel
theorem dX0_encode_84 : decode cX0_encode 84 = .ok (.bipush 63, 2) := by decide +kernel
theorem dX0_encode_86 : decode cX0_encode 86 = .ok (.iand, 1) := by decide +kernel
theorem dX0_encode_87 : decode cX0_encode 87 = .ok (.invokevirtual 19, 3) := by decide +kernel
theorem dX0_encode_90 : decode cX0_encode 90 = .ok (.invokevirtual 25, 3) := by decide +kernel
theorem dX0_encode_93 : decode cX0_encode 93 = .ok (.iinc 4 1, 3) := by decide +kernel
theorem dX0_encode_96 : decode cX0_encode 96 = .ok (.goto (-78), 3) := by decide +kernel
theorem dX0_encode_99 : decode cX0_encode 99 = .ok (.return_, 1) := by decide +kernel
theorem dX0_decodeCookie_0 : decode cX0_decodeCookie 0 = .ok (.aload_n 0, 1) := by decide +kernel
theorem dX0_decodeCookie_1 : decode cX0_decodeCookie 1 = .ok (.invokestatic 29, 3) := by decide +kernel
theorem dX0_decodeCookie_4 : decode cX0_decodeCookie 4 = .ok (.ifCond .ne 5, 3) := by decide +kernel
theorem dX0_decodeCookie_7 : decode cX0_decodeCookie 7 = .ok (.iconst 0, 1) := by decide +kernel
theorem dX0_decodeCookie_8 : decode cX0_decodeCookie 8 = .ok (.ireturn, 1) := by decide +kernel
theorem dX0_decodeCookie_9 : decode cX0_decodeCookie 9 = .ok (.iconst 0, 1) := by decide +kernel
theorem dX0_decodeCookie_10 : decode cX0_decodeCookie 10 = .ok (.istore_n 2, 1) := by decide +kernel
theorem dX0_decodeCookie_11 : decode cX0_decodeCookie 11 = .ok (.iload_n 2, 1) := by decide +kernel
theorem dX0_decodeCookie_12 : decode cX0_decodeCookie 12 = .ok (.bipush 22, 2) := by decide +kernel
theorem dX0_decodeCookie_14 : decode cX0_decodeCookie 14 = .ok (.if_icmp .ge 64, 3) := by decide +kernel
theorem dX0_decodeCookie_17 : decode cX0_decodeCookie 17 = .ok (.bipush 8, 2) := by decide +kernel
theorem dX0_decodeCookie_19 : decode cX0_decodeCookie 19 = .ok (.iload_n 2, 1) := by decide +kernel
theorem dX0_decodeCookie_20 : decode cX0_decodeCookie 20 = .ok (.imul, 1) := by decide +kernel
theorem dX0_decodeCookie_21 : decode cX0_decodeCookie 21 = .ok (.istore_n 3, 1) := by decide +kernel
theorem dX0_decodeCookie_22 : decode cX0_decodeCookie 22 = .ok (.iload_n 3, 1) := by decide +kernel
theorem dX0_decodeCookie_23 : decode cX0_decodeCookie 23 = .ok (.bipush 6, 2) := by decide +kernel
theorem dX0_decodeCookie_25 : decode cX0_decodeCookie 25 = .ok (.idiv, 1) := by decide +kernel
theorem dX0_decodeCookie_26 : decode cX0_decodeCookie 26 = .ok (.istore 4, 2) := by decide +kernel
theorem dX0_decodeCookie_28 : decode cX0_decodeCookie 28 = .ok (.aload_n 0, 1) := by decide +kernel
theorem dX0_decodeCookie_29 : decode cX0_decodeCookie 29 = .ok (.getfield 33, 3) := by decide +kernel
theorem dX0_decodeCookie_32 : decode cX0_decodeCookie 32 = .ok (.iload 4, 2) := by decide +kernel
theorem dX0_decodeCookie_34 : decode cX0_decodeCookie 34 = .ok (.iaload, 1) := by decide +kernel
theorem dX0_decodeCookie_35 : decode cX0_decodeCookie 35 = .ok (.invokestatic 37, 3) := by decide +kernel
theorem dX0_decodeCookie_38 : decode cX0_decodeCookie 38 = .ok (.bipush 6, 2) := by decide +kernel
theorem dX0_decodeCookie_40 : decode cX0_decodeCookie 40 = .ok (.ishl, 1) := by decide +kernel
theorem dX0_decodeCookie_41 : decode cX0_decodeCookie 41 = .ok (.aload_n 0, 1) := by decide +kernel
theorem dX0_decodeCookie_42 : decode cX0_decodeCookie 42 = .ok (.getfield 33, 3) := by decide +kernel
theorem dX0_decodeCookie_45 : decode cX0_decodeCookie 45 = .ok (.iload 4, 2) := by decide +kernel
theorem dX0_decodeCookie_47 : decode cX0_decodeCookie 47 = .ok (.iconst 1, 1) := by decide +kernel
theorem dX0_decodeCookie_48 : decode cX0_decodeCookie 48 = .ok (.iadd, 1) := by decide +kernel
theorem dX0_decodeCookie_49 : decode cX0_decodeCookie 49 = .ok (.iaload, 1) := by decide +kernel
theorem dX0_decodeCookie_50 : decode cX0_decodeCookie 50 = .ok (.invokestatic 37, 3) := by decide +kernel
theorem dX0_decodeCookie_53 : decode cX0_decodeCookie 53 = .ok (.ior, 1) := by decide +kernel
theorem dX0_decodeCookie_54 : decode cX0_decodeCookie 54 = .ok (.istore 5, 2) := by decide +kernel
theorem dX0_decodeCookie_56 : decode cX0_decodeCookie 56 = .ok (.aload_n 1, 1) := by decide +kernel
theorem dX0_decodeCookie_57 : decode cX0_decodeCookie 57 = .ok (.iload_n 2, 1) := by decide +kernel
theorem dX0_decodeCookie_58 : decode cX0_decodeCookie 58 = .ok (.iload 5, 2) := by decide +kernel
theorem dX0_decodeCookie_60 : decode cX0_decodeCookie 60 = .ok (.iconst 4, 1) := by decide +kernel
theorem dX0_decodeCookie_61 : decode cX0_decodeCookie 61 = .ok (.iload_n 3, 1) := by decide +kernel
theorem dX0_decodeCookie_62 : decode cX0_decodeCookie 62 = .ok (.bipush 6, 2) := by decide +kernel
theorem dX0_decodeCookie_64 : decode cX0_decodeCookie 64 = .ok (.irem, 1) := by decide +kernel
theorem dX0_decodeCookie_65 : decode cX0_decodeCookie 65 = .ok (.isub, 1) := by decide +kernel
theorem dX0_decodeCookie_66 : decode cX0_decodeCookie 66 = .ok (.iushr, 1) := by decide +kernel
theorem dX0_decodeCookie_67 : decode cX0_decodeCookie 67 = .ok (.sipush 255, 3) := by decide +kernel
theorem dX0_decodeCookie_70 : decode cX0_decodeCookie 70 = .ok (.iand, 1) := by decide +kernel
theorem dX0_decodeCookie_71 : decode cX0_decodeCookie 71 = .ok (.iastore, 1) := by decide +kernel
theorem dX0_decodeCookie_72 : decode cX0_decodeCookie 72 = .ok (.iinc 2 1, 3) := by decide +kernel
theorem dX0_decodeCookie_75 : decode cX0_decodeCookie 75 = .ok (.goto (-64), 3) := by decide +kernel
theorem dX0_decodeCookie_78 : decode cX0_decodeCookie 78 = .ok (.iconst 1, 1) := by decide +kernel
theorem dX0_decodeCookie_79 : decode cX0_decodeCookie 79 = .ok (.ireturn, 1) := by decide +kernel
theorem dX0_isCookieForm_0 : decode cX0_isCookieForm 0 = .ok (.aload_n 0, 1) := by decide +kernel
theorem dX0_isCookieForm_1 : decode cX0_isCookieForm 1 = .ok (.getfield 9, 3) := by decide +kernel
theorem dX0_isCookieForm_4 : decode cX0_isCookieForm 4 = .ok (.bipush 30, 2) := by decide +kernel
theorem dX0_isCookieForm_6 : decode cX0_isCookieForm 6 = .ok (.if_icmp .eq 5, 3) := by decide +kernel
theorem dX0_isCookieForm_9 : decode cX0_isCookieForm 9 = .ok (.iconst 0, 1) := by decide +kernel
theorem dX0_isCookieForm_10 : decode cX0_isCookieForm 10 = .ok (.ireturn, 1) := by decide +kernel
theorem dX0_isCookieForm_11 : decode cX0_isCookieForm 11 = .ok (.iconst 0, 1) := by decide +kernel
theorem dX0_isCookieForm_12 : decode cX0_isCookieForm 12 = .ok (.istore_n 1, 1) := by decide +kernel
theorem dX0_isCookieForm_13 : decode cX0_isCookieForm 13 = .ok (.iload_n 1, 1) := by decide +kernel
theorem dX0_isCookieForm_14 : decode cX0_isCookieForm 14 = .ok (.bipush 30, 2) := by decide +kernel
theorem dX0_isCookieForm_16 : decode cX0_isCookieForm 16 = .ok (.if_icmp .ge 23, 3) := by decide +kernel
theorem dX0_isCookieForm_19 : decode cX0_isCookieForm 19 = .ok (.aload_n 0, 1) := by decide +kernel
theorem dX0_isCookieForm_20 : decode cX0_isCookieForm 20 = .ok (.getfield 33, 3) := by decide +kernel
theorem dX0_isCookieForm_23 : decode cX0_isCookieForm 23 = .ok (.iload_n 1, 1) := by decide +kernel
theorem dX0_isCookieForm_24 : decode cX0_isCookieForm 24 = .ok (.iaload, 1) := by decide +kernel
theorem dX0_isCookieForm_25 : decode cX0_isCookieForm 25 = .ok (.invokestatic 37, 3) := by decide +kernel
theorem dX0_isCookieForm_28 : decode cX0_isCookieForm 28 = .ok (.ifCond .ge 5, 3) := by decide +kernel
theorem dX0_isCookieForm_31 : decode cX0_isCookieForm 31 = .ok (.iconst 0, 1) := by decide +kernel
theorem dX0_isCookieForm_32 : decode cX0_isCookieForm 32 = .ok (.ireturn, 1) := by decide +kernel
theorem dX0_isCookieForm_33 : decode cX0_isCookieForm 33 = .ok (.iinc 1 1, 3) := by decide +kernel
theorem dX0_isCookieForm_36 : decode cX0_isCookieForm 36 = .ok (.goto (-23), 3) := by decide +kernel
theorem dX0_isCookieForm_39 : decode cX0_isCookieForm 39 = .ok (.aload_n 0, 1) := by decide +kernel
theorem dX0_isCookieForm_40 : decode cX0_isCookieForm 40 = .ok (.getfield 33, 3) := by decide +kernel
theorem dX0_isCookieForm_43 : decode cX0_isCookieForm 43 = .ok (.bipush 29, 2) := by decide +kernel
theorem dX0_isCookieForm_45 : decode cX0_isCookieForm 45 = .ok (.iaload, 1) := by decide +kernel
theorem dX0_isCookieForm_46 : decode cX0_isCookieForm 46 = .ok (.invokestatic 37, 3) := by decide +kernel
theorem dX0_isCookieForm_49 : decode cX0_isCookieForm 49 = .ok (.bipush 15, 2) := by decide +kernel
theorem dX0_isCookieForm_51 : decode cX0_isCookieForm 51 = .ok (.iand, 1) := by decide +kernel
theorem dX0_isCookieForm_52 : decode cX0_isCookieForm 52 = .ok (.ifCond .ne 7, 3) := by decide +kernel
theorem dX0_isCookieForm_55 : decode cX0_isCookieForm 55 = .ok (.iconst 1, 1) := by decide +kernel
theorem dX0_isCookieForm_56 : decode cX0_isCookieForm 56 = .ok (.goto 4, 3) := by decide +kernel
theorem dX0_isCookieForm_59 : decode cX0_isCookieForm 59 = .ok (.iconst 0, 1) := by decide +kernel
theorem dX0_isCookieForm_60 : decode cX0_isCookieForm 60 = .ok (.ireturn, 1) := by decide +kernel
theorem dX0_sixBits_0 : decode cX0_sixBits 0 = .ok (.ldc 17, 2) := by decide +kernel
theorem dX0_sixBits_2 : decode cX0_sixBits 2 = .ok (.iload_n 0, 1) := by decide +kernel
theorem dX0_sixBits_3 : decode cX0_sixBits 3 = .ok (.i2c, 1) := by decide +kernel
theorem dX0_sixBits_4 : decode cX0_sixBits 4 = .ok (.invokevirtual 41, 3) := by decide +kernel
theorem dX0_sixBits_7 : decode cX0_sixBits 7 = .ok (.ireturn, 1) := by decide +kernel
theorem dX1_init_0 : decode cX1_init 0 = .ok (.aload_n 0, 1) := by decide +kernel
theorem dX1_init_1 : decode cX1_init 1 = .ok (.invokespecial 1, 3) := by decide +kernel
theorem dX1_init_4 : decode cX1_init 4 = .ok (.aload_n 0, 1) := by decide +kernel
theorem dX1_init_5 : decode cX1_init 5 = .ok (.bipush 16, 2) := by decide +kernel
theorem dX1_init_7 : decode cX1_init 7 = .ok (.newarray .int, 2) := by decide +kernel
theorem dX1_init_9 : decode cX1_init 9 = .ok (.putfield 9, 3) := by decide +kernel
theorem dX1_init_12 : decode cX1_init 12 = .ok (.aload_n 0, 1) := by decide +kernel
theorem dX1_init_13 : decode cX1_init 13 = .ok (.iconst 0, 1) := by decide +kernel
theorem dX1_init_14 : decode cX1_init 14 = .ok (.putfield 13, 3) := by decide +kernel
theorem dX1_init_17 : decode cX1_init 17 = .ok (.aload_n 0, 1) := by decide +kernel
theorem dX1_init_18 : decode cX1_init 18 = .ok (.lconst 0, 1) := by decide +kernel
theorem dX1_init_19 : decode cX1_init 19 = .ok (.putfield 17, 3) := by decide +kernel
theorem dX1_init_22 : decode cX1_init 22 = .ok (.return_, 1) := by decide +kernel
theorem dX1_fill_0 : decode cX1_fill 0 = .ok (.iconst 0, 1) := by decide +kernel
theorem dX1_fill_1 : decode cX1_fill 1 = .ok (.istore 5, 2) := by decide +kernel
theorem dX1_fill_3 : decode cX1_fill 3 = .ok (.iload 5, 2) := by decide +kernel
theorem dX1_fill_5 : decode cX1_fill 5 = .ok (.iconst 4, 1) := by decide +kernel
theorem dX1_fill_6 : decode cX1_fill 6 = .ok (.if_icmp .ge 70, 3) := by decide +kernel
theorem dX1_fill_9 : decode cX1_fill 9 = .ok (.aload_n 0, 1) := by decide +kernel
theorem dX1_fill_10 : decode cX1_fill 10 = .ok (.getfield 9, 3) := by decide +kernel
theorem dX1_fill_13 : decode cX1_fill 13 = .ok (.iload 5, 2) := by decide +kernel
theorem dX1_fill_15 : decode cX1_fill 15 = .ok (.iload_n 1, 1) := by decide +kernel
theorem dX1_fill_16 : decode cX1_fill 16 = .ok (.iload 5, 2) := by decide +kernel
theorem dX1_fill_18 : decode cX1_fill 18 = .ok (.invokestatic 21, 3) := by decide +kernel
theorem dX1_fill_21 : decode cX1_fill 21 = .ok (.iastore, 1) := by decide +kernel
theorem dX1_fill_22 : decode cX1_fill 22 = .ok (.aload_n 0, 1) := by decide +kernel
theorem dX1_fill_23 : decode cX1_fill 23 = .ok (.getfield 9, 3) := by decide +kernel
theorem dX1_fill_26 : decode cX1_fill 26 = .ok (.iconst 4, 1) := by decide +kernel
theorem dX1_fill_27 : decode cX1_fill 27 = .ok (.iload 5, 2) := by decide +kernel
theorem dX1_fill_29 : decode cX1_fill 29 = .ok (.iadd, 1) := by decide +kernel
theorem dX1_fill_30 : decode cX1_fill 30 = .ok (.iload_n 2, 1) := by decide +kernel
theorem dX1_fill_31 : decode cX1_fill 31 = .ok (.iload 5, 2) := by decide +kernel
theorem dX1_fill_33 : decode cX1_fill 33 = .ok (.invokestatic 21, 3) := by decide +kernel
theorem dX1_fill_36 : decode cX1_fill 36 = .ok (.iastore, 1) := by decide +kernel
theorem dX1_fill_37 : decode cX1_fill 37 = .ok (.aload_n 0, 1) := by decide +kernel
theorem dX1_fill_38 : decode cX1_fill 38 = .ok (.getfield 9, 3) := by decide +kernel
theorem dX1_fill_41 : decode cX1_fill 41 = .ok (.bipush 8, 2) := by decide +kernel
theorem dX1_fill_43 : decode cX1_fill 43 = .ok (.iload 5, 2) := by decide +kernel
theorem dX1_fill_45 : decode cX1_fill 45 = .ok (.iadd, 1) := by decide +kernel
theorem dX1_fill_46 : decode cX1_fill 46 = .ok (.iload_n 3, 1) := by decide +kernel
theorem dX1_fill_47 : decode cX1_fill 47 = .ok (.iload 5, 2) := by decide +kernel
theorem dX1_fill_49 : decode cX1_fill 49 = .ok (.invokestatic 21, 3) := by decide +kernel
theorem dX1_fill_52 : decode cX1_fill 52 = .ok (.iastore, 1) := by decide +kernel
theorem dX1_fill_53 : decode cX1_fill 53 = .ok (.aload_n 0, 1) := by decide +kernel
theorem dX1_fill_54 : decode cX1_fill 54 = .ok (.getfield 9, 3) := by decide +kernel
theorem dX1_fill_57 : decode cX1_fill 57 = .ok (.bipush 12, 2) := by decide +kernel
theorem dX1_fill_59 : decode cX1_fill 59 = .ok (.iload 5, 2) := by decide +kernel
theorem dX1_fill_61 : decode cX1_fill 61 = .ok (.iadd, 1) := by decide +kernel
theorem dX1_fill_62 : decode cX1_fill 62 = .ok (.iload 4, 2) := by decide +kernel
theorem dX1_fill_64 : decode cX1_fill 64 = .ok (.iload 5, 2) := by decide +kernel
theorem dX1_fill_66 : decode cX1_fill 66 = .ok (.invokestatic 21, 3) := by decide +kernel
theorem dX1_fill_69 : decode cX1_fill 69 = .ok (.iastore, 1) := by decide +kernel
theorem dX1_fill_70 : decode cX1_fill 70 = .ok (.iinc 5 1, 3) := by decide +kernel
theorem dX1_fill_73 : decode cX1_fill 73 = .ok (.goto (-70), 3) := by decide +kernel
theorem dX1_fill_76 : decode cX1_fill 76 = .ok (.return_, 1) := by decide +kernel
theorem dX2_init_0 : decode cX2_init 0 = .ok (.aload_n 0, 1) := by decide +kernel
theorem dX2_init_1 : decode cX2_init 1 = .ok (.invokespecial 1, 3) := by decide +kernel
theorem dX2_init_4 : decode cX2_init 4 = .ok (.aload_n 0, 1) := by decide +kernel
theorem dX2_init_5 : decode cX2_init 5 = .ok (.iconst 4, 1) := by decide +kernel
theorem dX2_init_6 : decode cX2_init 6 = .ok (.anewarray 9, 3) := by decide +kernel
theorem dX2_init_9 : decode cX2_init 9 = .ok (.putfield 11, 3) := by decide +kernel
theorem dX2_init_12 : decode cX2_init 12 = .ok (.aload_n 0, 1) := by decide +kernel
theorem dX2_init_13 : decode cX2_init 13 = .ok (.iconst 1, 1) := by decide +kernel
theorem dX2_init_14 : decode cX2_init 14 = .ok (.putfield 15, 3) := by decide +kernel
theorem dX2_init_17 : decode cX2_init 17 = .ok (.aload_n 0, 1) := by decide +kernel
theorem dX2_init_18 : decode cX2_init 18 = .ok (.iconst 0, 1) := by decide +kernel
theorem dX2_init_19 : decode cX2_init 19 = .ok (.putfield 19, 3) := by decide +kernel
theorem dX2_init_22 : decode cX2_init 22 = .ok (.iconst 0, 1) := by decide +kernel
theorem dX2_init_23 : decode cX2_init 23 = .ok (.istore_n 1, 1) := by decide +kernel
theorem dX2_init_24 : decode cX2_init 24 = .ok (.iload_n 1, 1) := by decide +kernel
theorem dX2_init_25 : decode cX2_init 25 = .ok (.iconst 4, 1) := by decide +kernel
theorem dX2_init_26 : decode cX2_init 26 = .ok (.if_icmp .ge 22, 3) := by decide +kernel
theorem dX2_init_29 : decode cX2_init 29 = .ok (.aload_n 0, 1) := by decide +kernel
theorem dX2_init_30 : decode cX2_init 30 = .ok (.getfield 11, 3) := by decide +kernel
theorem dX2_init_33 : decode cX2_init 33 = .ok (.iload_n 1, 1) := by decide +kernel
theorem dX2_init_34 : decode cX2_init 34 = .ok (.new 9, 3) := by decide +kernel
theorem dX2_init_37 : decode cX2_init 37 = .ok (.dup, 1) := by decide +kernel
theorem dX2_init_38 : decode cX2_init 38 = .ok (.invokespecial 22, 3) := by decide +kernel
theorem dX2_init_41 : decode cX2_init 41 = .ok (.aastore, 1) := by decide +kernel
theorem dX2_init_42 : decode cX2_init 42 = .ok (.iinc 1 1, 3) := by decide +kernel
theorem dX2_init_45 : decode cX2_init 45 = .ok (.goto (-21), 3) := by decide +kernel
theorem dX2_init_48 : decode cX2_init 48 = .ok (.return_, 1) := by decide +kernel
theorem dX2_newest_0 : decode cX2_newest 0 = .ok (.aload_n 0, 1) := by decide +kernel
theorem dX2_newest_1 : decode cX2_newest 1 = .ok (.getfield 11, 3) := by decide +kernel
theorem dX2_newest_4 : decode cX2_newest 4 = .ok (.aload_n 0, 1) := by decide +kernel
theorem dX2_newest_5 : decode cX2_newest 5 = .ok (.getfield 19, 3) := by decide +kernel
theorem dX2_newest_8 : decode cX2_newest 8 = .ok (.aaload, 1) := by decide +kernel
theorem dX2_newest_9 : decode cX2_newest 9 = .ok (.areturn, 1) := by decide +kernel
theorem dX2_advance_0 : decode cX2_advance 0 = .ok (.aload_n 0, 1) := by decide +kernel
theorem dX2_advance_1 : decode cX2_advance 1 = .ok (.getfield 11, 3) := by decide +kernel
theorem dX2_advance_4 : decode cX2_advance 4 = .ok (.aload_n 0, 1) := by decide +kernel
theorem dX2_advance_5 : decode cX2_advance 5 = .ok (.getfield 19, 3) := by decide +kernel
theorem dX2_advance_8 : decode cX2_advance 8 = .ok (.aaload, 1) := by decide +kernel
theorem dX2_advance_9 : decode cX2_advance 9 = .ok (.astore_n 3, 1) := by decide +kernel
theorem dX2_advance_10 : decode cX2_advance 10 = .ok (.aload_n 3, 1) := by decide +kernel
theorem dX2_advance_11 : decode cX2_advance 11 = .ok (.lload_n 1, 1) := by decide +kernel
theorem dX2_advance_12 : decode cX2_advance 12 = .ok (.putfield 23, 3) := by decide +kernel
theorem dX2_advance_15 : decode cX2_advance 15 = .ok (.aload_n 0, 1) := by decide +kernel
theorem dX2_advance_16 : decode cX2_advance 16 = .ok (.aload_n 0, 1) := by decide +kernel
theorem dX2_advance_17 : decode cX2_advance 17 = .ok (.getfield 19, 3) := by decide +kernel
theorem dX2_advance_20 : decode cX2_advance 20 = .ok (.iconst 1, 1) := by decide +kernel
theorem dX2_advance_21 : decode cX2_advance 21 = .ok (.iadd, 1) := by decide +kernel
theorem dX2_advance_22 : decode cX2_advance 22 = .ok (.iconst 4, 1) := by decide +kernel
theorem dX2_advance_23 : decode cX2_advance 23 = .ok (.irem, 1) := by decide +kernel
theorem dX2_advance_24 : decode cX2_advance 24 = .ok (.putfield 19, 3) := by decide +kernel
theorem dX2_advance_27 : decode cX2_advance 27 = .ok (.aload_n 0, 1) := by decide +kernel
theorem dX2_advance_28 : decode cX2_advance 28 = .ok (.getfield 11, 3) := by decide +kernel
theorem dX2_advance_31 : decode cX2_advance 31 = .ok (.aload_n 0, 1) := by decide +kernel
theorem dX2_advance_32 : decode cX2_advance 32 = .ok (.getfield 19, 3) := by decide +kernel
theorem dX2_advance_35 : decode cX2_advance 35 = .ok (.aaload, 1) := by decide +kernel
theorem dX2_advance_36 : decode cX2_advance 36 = .ok (.aload_n 3, 1) := by decide +kernel
theorem dX2_advance_37 : decode cX2_advance 37 = .ok (.getfield 27, 3) := by decide +kernel
theorem dX2_advance_40 : decode cX2_advance 40 = .ok (.iconst 1, 1) := by decide +kernel
theorem dX2_advance_41 : decode cX2_advance 41 = .ok (.iadd, 1) := by decide +kernel
theorem dX2_advance_42 : decode cX2_advance 42 = .ok (.sipush 255, 3) := by decide +kernel
theorem dX2_advance_45 : decode cX2_advance 45 = .ok (.iand, 1) := by decide +kernel
theorem dX2_advance_46 : decode cX2_advance 46 = .ok (.putfield 27, 3) := by decide +kernel
theorem dX2_advance_49 : decode cX2_advance 49 = .ok (.aload_n 0, 1) := by decide +kernel
theorem dX2_advance_50 : decode cX2_advance 50 = .ok (.getfield 15, 3) := by decide +kernel
theorem dX2_advance_53 : decode cX2_advance 53 = .ok (.iconst 4, 1) := by decide +kernel
theorem dX2_advance_54 : decode cX2_advance 54 = .ok (.if_icmp .ge 13, 3) := by decide +kernel
theorem dX2_advance_57 : decode cX2_advance 57 = .ok (.aload_n 0, 1) := by decide +kernel
theorem dX2_advance_58 : decode cX2_advance 58 = .ok (.dup, 1) := by decide +kernel
theorem dX2_advance_59 : decode cX2_advance 59 = .ok (.getfield 15, 3) := by decide +kernel
theorem dX2_advance_62 : decode cX2_advance 62 = .ok (.iconst 1, 1) := by decide +kernel
theorem dX2_advance_63 : decode cX2_advance 63 = .ok (.iadd, 1) := by decide +kernel
theorem dX2_advance_64 : decode cX2_advance 64 = .ok (.putfield 15, 3) := by decide +kernel
theorem dX2_advance_67 : decode cX2_advance 67 = .ok (.return_, 1) := by decide +kernel
theorem dX2_isLive_0 : decode cX2_isLive 0 = .ok (.iload_n 1, 1) := by decide +kernel
theorem dX2_isLive_1 : decode cX2_isLive 1 = .ok (.aload_n 0, 1) := by decide +kernel
theorem dX2_isLive_2 : decode cX2_isLive 2 = .ok (.getfield 15, 3) := by decide +kernel
theorem dX2_isLive_5 : decode cX2_isLive 5 = .ok (.if_icmp .lt 5, 3) := by decide +kernel
theorem dX2_isLive_8 : decode cX2_isLive 8 = .ok (.iconst 0, 1) := by decide +kernel
theorem dX2_isLive_9 : decode cX2_isLive 9 = .ok (.ireturn, 1) := by decide +kernel
theorem dX2_isLive_10 : decode cX2_isLive 10 = .ok (.iload_n 1, 1) := by decide +kernel
theorem dX2_isLive_11 : decode cX2_isLive 11 = .ok (.aload_n 0, 1) := by decide +kernel
theorem dX2_isLive_12 : decode cX2_isLive 12 = .ok (.getfield 19, 3) := by decide +kernel
theorem dX2_isLive_15 : decode cX2_isLive 15 = .ok (.if_icmp .eq 20, 3) := by decide +kernel
theorem dX2_isLive_18 : decode cX2_isLive 18 = .ok (.lload_n 2, 1) := by decide +kernel
theorem dX2_isLive_19 : decode cX2_isLive 19 = .ok (.aload_n 0, 1) := by decide +kernel
theorem dX2_isLive_20 : decode cX2_isLive 20 = .ok (.getfield 11, 3) := by decide +kernel
theorem dX2_isLive_23 : decode cX2_isLive 23 = .ok (.iload_n 1, 1) := by decide +kernel
theorem dX2_isLive_24 : decode cX2_isLive 24 = .ok (.aaload, 1) := by decide +kernel
theorem dX2_isLive_25 : decode cX2_isLive 25 = .ok (.getfield 23, 3) := by decide +kernel
theorem dX2_isLive_28 : decode cX2_isLive 28 = .ok (.lsub, 1) := by decide +kernel
theorem dX2_isLive_29 : decode cX2_isLive 29 = .ok (.lload 4, 2) := by decide +kernel
theorem dX2_isLive_31 : decode cX2_isLive 31 = .ok (.lcmp, 1) := by decide +kernel
theorem dX2_isLive_32 : decode cX2_isLive 32 = .ok (.ifCond .ge 7, 3) := by decide +kernel
theorem dX2_isLive_35 : decode cX2_isLive 35 = .ok (.iconst 1, 1) := by decide +kernel
theorem dX2_isLive_36 : decode cX2_isLive 36 = .ok (.goto 4, 3) := by decide +kernel
theorem dX2_isLive_39 : decode cX2_isLive 39 = .ok (.iconst 0, 1) := by decide +kernel
theorem dX2_isLive_40 : decode cX2_isLive 40 = .ok (.ireturn, 1) := by decide +kernel
theorem dX2_liveKey_0 : decode cX2_liveKey 0 = .ok (.iconst 0, 1) := by decide +kernel
theorem dX2_liveKey_1 : decode cX2_liveKey 1 = .ok (.istore 6, 2) := by decide +kernel
theorem dX2_liveKey_3 : decode cX2_liveKey 3 = .ok (.iload 6, 2) := by decide +kernel
theorem dX2_liveKey_5 : decode cX2_liveKey 5 = .ok (.iconst 4, 1) := by decide +kernel
theorem dX2_liveKey_6 : decode cX2_liveKey 6 = .ok (.if_icmp .ge 43, 3) := by decide +kernel
theorem dX2_liveKey_9 : decode cX2_liveKey 9 = .ok (.aload_n 0, 1) := by decide +kernel
theorem dX2_liveKey_10 : decode cX2_liveKey 10 = .ok (.iload 6, 2) := by decide +kernel
theorem dX2_liveKey_12 : decode cX2_liveKey 12 = .ok (.lload_n 2, 1) := by decide +kernel
theorem dX2_liveKey_13 : decode cX2_liveKey 13 = .ok (.lload 4, 2) := by decide +kernel
theorem dX2_liveKey_15 : decode cX2_liveKey 15 = .ok (.invokevirtual 30, 3) := by decide +kernel
theorem dX2_liveKey_18 : decode cX2_liveKey 18 = .ok (.ifCond .eq 25, 3) := by decide +kernel
theorem dX2_liveKey_21 : decode cX2_liveKey 21 = .ok (.aload_n 0, 1) := by decide +kernel
theorem dX2_liveKey_22 : decode cX2_liveKey 22 = .ok (.getfield 11, 3) := by decide +kernel
theorem dX2_liveKey_25 : decode cX2_liveKey 25 = .ok (.iload 6, 2) := by decide +kernel
theorem dX2_liveKey_27 : decode cX2_liveKey 27 = .ok (.aaload, 1) := by decide +kernel
theorem dX2_liveKey_28 : decode cX2_liveKey 28 = .ok (.getfield 27, 3) := by decide +kernel
theorem dX2_liveKey_31 : decode cX2_liveKey 31 = .ok (.iload_n 1, 1) := by decide +kernel
theorem dX2_liveKey_32 : decode cX2_liveKey 32 = .ok (.if_icmp .ne 11, 3) := by decide +kernel
theorem dX2_liveKey_35 : decode cX2_liveKey 35 = .ok (.aload_n 0, 1) := by decide +kernel
theorem dX2_liveKey_36 : decode cX2_liveKey 36 = .ok (.getfield 11, 3) := by decide +kernel
theorem dX2_liveKey_39 : decode cX2_liveKey 39 = .ok (.iload 6, 2) := by decide +kernel
theorem dX2_liveKey_41 : decode cX2_liveKey 41 = .ok (.aaload, 1) := by decide +kernel
theorem dX2_liveKey_42 : decode cX2_liveKey 42 = .ok (.areturn, 1) := by decide +kernel
theorem dX2_liveKey_43 : decode cX2_liveKey 43 = .ok (.iinc 6 1, 3) := by decide +kernel
theorem dX2_liveKey_46 : decode cX2_liveKey 46 = .ok (.goto (-43), 3) := by decide +kernel
theorem dX2_liveKey_49 : decode cX2_liveKey 49 = .ok (.aconst_null, 1) := by decide +kernel
theorem dX2_liveKey_50 : decode cX2_liveKey 50 = .ok (.areturn, 1) := by decide +kernel
theorem dX2_liveOnes_0 : decode cX2_liveOnes 0 = .ok (.iconst 0, 1) := by decide +kernel
theorem dX2_liveOnes_1 : decode cX2_liveOnes 1 = .ok (.istore 5, 2) := by decide +kernel
theorem dX2_liveOnes_3 : decode cX2_liveOnes 3 = .ok (.iconst 0, 1) := by decide +kernel
theorem dX2_liveOnes_4 : decode cX2_liveOnes 4 = .ok (.istore 6, 2) := by decide +kernel
theorem dX2_liveOnes_6 : decode cX2_liveOnes 6 = .ok (.iload 6, 2) := by decide +kernel
theorem dX2_liveOnes_8 : decode cX2_liveOnes 8 = .ok (.iconst 4, 1) := by decide +kernel
theorem dX2_liveOnes_9 : decode cX2_liveOnes 9 = .ok (.if_icmp .ge 23, 3) := by decide +kernel
theorem dX2_liveOnes_12 : decode cX2_liveOnes 12 = .ok (.aload_n 0, 1) := by decide +kernel
theorem dX2_liveOnes_13 : decode cX2_liveOnes 13 = .ok (.iload 6, 2) := by decide +kernel
theorem dX2_liveOnes_15 : decode cX2_liveOnes 15 = .ok (.lload_n 1, 1) := by decide +kernel
theorem dX2_liveOnes_16 : decode cX2_liveOnes 16 = .ok (.lload_n 3, 1) := by decide +kernel
theorem dX2_liveOnes_17 : decode cX2_liveOnes 17 = .ok (.invokevirtual 30, 3) := by decide +kernel
theorem dX2_liveOnes_20 : decode cX2_liveOnes 20 = .ok (.ifCond .eq 6, 3) := by decide +kernel
theorem dX2_liveOnes_23 : decode cX2_liveOnes 23 = .ok (.iinc 5 1, 3) := by decide +kernel
theorem dX2_liveOnes_26 : decode cX2_liveOnes 26 = .ok (.iinc 6 1, 3) := by decide +kernel
theorem dX2_liveOnes_29 : decode cX2_liveOnes 29 = .ok (.goto (-23), 3) := by decide +kernel
theorem dX2_liveOnes_32 : decode cX2_liveOnes 32 = .ok (.iload 5, 2) := by decide +kernel
theorem dX2_liveOnes_34 : decode cX2_liveOnes 34 = .ok (.ireturn, 1) := by decide +kernel
theorem dX3_init_0 : decode cX3_init 0 = .ok (.aload_n 0, 1) := by decide +kernel
theorem dX3_init_1 : decode cX3_init 1 = .ok (.invokespecial 1, 3) := by decide +kernel
theorem dX3_init_4 : decode cX3_init 4 = .ok (.aload_n 0, 1) := by decide +kernel
theorem dX3_init_5 : decode cX3_init 5 = .ok (.bipush 32, 2) := by decide +kernel
theorem dX3_init_7 : decode cX3_init 7 = .ok (.newarray .int, 2) := by decide +kernel
theorem dX3_init_9 : decode cX3_init 9 = .ok (.putfield 9, 3) := by decide +kernel
theorem dX3_init_12 : decode cX3_init 12 = .ok (.aload_n 0, 1) := by decide +kernel
theorem dX3_init_13 : decode cX3_init 13 = .ok (.sipush 128, 3) := by decide +kernel
theorem dX3_init_16 : decode cX3_init 16 = .ok (.newarray .int, 2) := by decide +kernel
theorem dX3_init_18 : decode cX3_init 18 = .ok (.putfield 13, 3) := by decide +kernel
theorem dX3_init_21 : decode cX3_init 21 = .ok (.aload_n 0, 1) := by decide +kernel
theorem dX3_init_22 : decode cX3_init 22 = .ok (.bipush 64, 2) := by decide +kernel
theorem dX3_init_24 : decode cX3_init 24 = .ok (.newarray .int, 2) := by decide +kernel
theorem dX3_init_26 : decode cX3_init 26 = .ok (.putfield 16, 3) := by decide +kernel
theorem dX3_init_29 : decode cX3_init 29 = .ok (.aload_n 0, 1) := by decide +kernel
theorem dX3_init_30 : decode cX3_init 30 = .ok (.bipush 8, 2) := by decide +kernel
theorem dX3_init_32 : decode cX3_init 32 = .ok (.newarray .int, 2) := by decide +kernel
theorem dX3_init_34 : decode cX3_init 34 = .ok (.putfield 19, 3) := by decide +kernel
theorem dX3_init_37 : decode cX3_init 37 = .ok (.return_, 1) := by decide +kernel
theorem dX3_compute_0 : decode cX3_compute 0 = .ok (.aload_n 0, 1) := by decide +kernel
theorem dX3_compute_1 : decode cX3_compute 1 = .ok (.aload_n 1, 1) := by decide +kernel
theorem dX3_compute_2 : decode cX3_compute 2 = .ok (.bipush 54, 2) := by decide +kernel
theorem dX3_compute_4 : decode cX3_compute 4 = .ok (.aload_n 2, 1) := by decide +kernel
theorem dX3_compute_5 : decode cX3_compute 5 = .ok (.iload_n 3, 1) := by decide +kernel
theorem dX3_compute_6 : decode cX3_compute 6 = .ok (.invokevirtual 22, 3) := by decide +kernel
theorem dX3_compute_9 : decode cX3_compute 9 = .ok (.aload_n 0, 1) := by decide +kernel
theorem dX3_compute_10 : decode cX3_compute 10 = .ok (.invokevirtual 26, 3) := by decide +kernel
theorem dX3_compute_13 : decode cX3_compute 13 = .ok (.aload_n 0, 1) := by decide +kernel
theorem dX3_compute_14 : decode cX3_compute 14 = .ok (.aload_n 1, 1) := by decide +kernel
theorem dX3_compute_15 : decode cX3_compute 15 = .ok (.bipush 92, 2) := by decide +kernel
theorem dX3_compute_17 : decode cX3_compute 17 = .ok (.aload_n 0, 1) := by decide +kernel
theorem dX3_compute_18 : decode cX3_compute 18 = .ok (.getfield 9, 3) := by decide +kernel
theorem dX3_compute_21 : decode cX3_compute 21 = .ok (.bipush 32, 2) := by decide +kernel
theorem dX3_compute_23 : decode cX3_compute 23 = .ok (.invokevirtual 22, 3) := by decide +kernel
theorem dX3_compute_26 : decode cX3_compute 26 = .ok (.aload_n 0, 1) := by decide +kernel
theorem dX3_compute_27 : decode cX3_compute 27 = .ok (.invokevirtual 26, 3) := by decide +kernel
theorem dX3_compute_30 : decode cX3_compute 30 = .ok (.return_, 1) := by decide +kernel
theorem dX3_fillBlocks_0 : decode cX3_fillBlocks 0 = .ok (.iconst 0, 1) := by decide +kernel
theorem dX3_fillBlocks_1 : decode cX3_fillBlocks 1 = .ok (.istore 5, 2) := by decide +kernel
theorem dX3_fillBlocks_3 : decode cX3_fillBlocks 3 = .ok (.iload 5, 2) := by decide +kernel
theorem dX3_fillBlocks_5 : decode cX3_fillBlocks 5 = .ok (.bipush 64, 2) := by decide +kernel
theorem dX3_fillBlocks_7 : decode cX3_fillBlocks 7 = .ok (.if_icmp .ge 33, 3) := by decide +kernel
theorem dX3_fillBlocks_10 : decode cX3_fillBlocks 10 = .ok (.aload_n 0, 1) := by decide +kernel
theorem dX3_fillBlocks_11 : decode cX3_fillBlocks 11 = .ok (.getfield 13, 3) := by decide +kernel
theorem dX3_fillBlocks_14 : decode cX3_fillBlocks 14 = .ok (.iload 5, 2) := by decide +kernel
theorem dX3_fillBlocks_16 : decode cX3_fillBlocks 16 = .ok (.iload 5, 2) := by decide +kernel
theorem dX3_fillBlocks_18 : decode cX3_fillBlocks 18 = .ok (.aload_n 1, 1) := by decide +kernel
theorem dX3_fillBlocks_19 : decode cX3_fillBlocks 19 = .ok (.arraylength, 1) := by decide +kernel
theorem dX3_fillBlocks_20 : decode cX3_fillBlocks 20 = .ok (.if_icmp .ge 10, 3) := by decide +kernel
theorem dX3_fillBlocks_23 : decode cX3_fillBlocks 23 = .ok (.aload_n 1, 1) := by decide +kernel
theorem dX3_fillBlocks_24 : decode cX3_fillBlocks 24 = .ok (.iload 5, 2) := by decide +kernel
theorem dX3_fillBlocks_26 : decode cX3_fillBlocks 26 = .ok (.iaload, 1) := by decide +kernel
theorem dX3_fillBlocks_27 : decode cX3_fillBlocks 27 = .ok (.goto 4, 3) := by decide +kernel
theorem dX3_fillBlocks_30 : decode cX3_fillBlocks 30 = .ok (.iconst 0, 1) := by decide +kernel
theorem dX3_fillBlocks_31 : decode cX3_fillBlocks 31 = .ok (.iload_n 2, 1) := by decide +kernel
theorem dX3_fillBlocks_32 : decode cX3_fillBlocks 32 = .ok (.ixor, 1) := by decide +kernel
theorem dX3_fillBlocks_33 : decode cX3_fillBlocks 33 = .ok (.iastore, 1) := by decide +kernel
theorem dX3_fillBlocks_34 : decode cX3_fillBlocks 34 = .ok (.iinc 5 1, 3) := by decide +kernel
theorem dX3_fillBlocks_37 : decode cX3_fillBlocks 37 = .ok (.goto (-34), 3) := by decide +kernel
theorem dX3_fillBlocks_40 : decode cX3_fillBlocks 40 = .ok (.iconst 0, 1) := by decide +kernel
theorem dX3_fillBlocks_41 : decode cX3_fillBlocks 41 = .ok (.istore 5, 2) := by decide +kernel
theorem dX3_fillBlocks_43 : decode cX3_fillBlocks 43 = .ok (.iload 5, 2) := by decide +kernel
theorem dX3_fillBlocks_45 : decode cX3_fillBlocks 45 = .ok (.bipush 64, 2) := by decide +kernel
theorem dX3_fillBlocks_47 : decode cX3_fillBlocks 47 = .ok (.if_icmp .ge 34, 3) := by decide +kernel
theorem dX3_fillBlocks_50 : decode cX3_fillBlocks 50 = .ok (.aload_n 0, 1) := by decide +kernel
theorem dX3_fillBlocks_51 : decode cX3_fillBlocks 51 = .ok (.getfield 13, 3) := by decide +kernel
theorem dX3_fillBlocks_54 : decode cX3_fillBlocks 54 = .ok (.bipush 64, 2) := by decide +kernel
theorem dX3_fillBlocks_56 : decode cX3_fillBlocks 56 = .ok (.iload 5, 2) := by decide +kernel
theorem dX3_fillBlocks_58 : decode cX3_fillBlocks 58 = .ok (.iadd, 1) := by decide +kernel
theorem dX3_fillBlocks_59 : decode cX3_fillBlocks 59 = .ok (.iload 5, 2) := by decide +kernel
theorem dX3_fillBlocks_61 : decode cX3_fillBlocks 61 = .ok (.iload 4, 2) := by decide +kernel
theorem dX3_fillBlocks_63 : decode cX3_fillBlocks 63 = .ok (.if_icmp .ge 10, 3) := by decide +kernel
theorem dX3_fillBlocks_66 : decode cX3_fillBlocks 66 = .ok (.aload_n 3, 1) := by decide +kernel
theorem dX3_fillBlocks_67 : decode cX3_fillBlocks 67 = .ok (.iload 5, 2) := by decide +kernel
theorem dX3_fillBlocks_69 : decode cX3_fillBlocks 69 = .ok (.iaload, 1) := by decide +kernel
theorem dX3_fillBlocks_70 : decode cX3_fillBlocks 70 = .ok (.goto 4, 3) := by decide +kernel
theorem dX3_fillBlocks_73 : decode cX3_fillBlocks 73 = .ok (.iconst 0, 1) := by decide +kernel
theorem dX3_fillBlocks_74 : decode cX3_fillBlocks 74 = .ok (.iastore, 1) := by decide +kernel
theorem dX3_fillBlocks_75 : decode cX3_fillBlocks 75 = .ok (.iinc 5 1, 3) := by decide +kernel
theorem dX3_fillBlocks_78 : decode cX3_fillBlocks 78 = .ok (.goto (-35), 3) := by decide +kernel
theorem dX3_fillBlocks_81 : decode cX3_fillBlocks 81 = .ok (.aload_n 0, 1) := by decide +kernel
theorem dX3_fillBlocks_82 : decode cX3_fillBlocks 82 = .ok (.getfield 13, 3) := by decide +kernel
theorem dX3_fillBlocks_85 : decode cX3_fillBlocks 85 = .ok (.bipush 64, 2) := by decide +kernel
theorem dX3_fillBlocks_87 : decode cX3_fillBlocks 87 = .ok (.iload 4, 2) := by decide +kernel
theorem dX3_fillBlocks_89 : decode cX3_fillBlocks 89 = .ok (.iadd, 1) := by decide +kernel
theorem dX3_fillBlocks_90 : decode cX3_fillBlocks 90 = .ok (.sipush 128, 3) := by decide +kernel
theorem dX3_fillBlocks_93 : decode cX3_fillBlocks 93 = .ok (.iastore, 1) := by decide +kernel
theorem dX3_fillBlocks_94 : decode cX3_fillBlocks 94 = .ok (.bipush 8, 2) := by decide +kernel
theorem dX3_fillBlocks_96 : decode cX3_fillBlocks 96 = .ok (.bipush 64, 2) := by decide +kernel
theorem dX3_fillBlocks_98 : decode cX3_fillBlocks 98 = .ok (.iload 4, 2) := by decide +kernel
theorem dX3_fillBlocks_100 : decode cX3_fillBlocks 100 = .ok (.iadd, 1) := by decide +kernel
theorem dX3_fillBlocks_101 : decode cX3_fillBlocks 101 = .ok (.imul, 1) := by decide +kernel
theorem dX3_fillBlocks_102 : decode cX3_fillBlocks 102 = .ok (.istore 5, 2) := by decide +kernel
theorem dX3_fillBlocks_104 : decode cX3_fillBlocks 104 = .ok (.aload_n 0, 1) := by decide +kernel
theorem dX3_fillBlocks_105 : decode cX3_fillBlocks 105 = .ok (.getfield 13, 3) := by decide +kernel
theorem dX3_fillBlocks_108 : decode cX3_fillBlocks 108 = .ok (.bipush 126, 2) := by decide +kernel
theorem dX3_fillBlocks_110 : decode cX3_fillBlocks 110 = .ok (.iload 5, 2) := by decide +kernel
theorem dX3_fillBlocks_112 : decode cX3_fillBlocks 112 = .ok (.bipush 8, 2) := by decide +kernel
theorem dX3_fillBlocks_114 : decode cX3_fillBlocks 114 = .ok (.iushr, 1) := by decide +kernel
theorem dX3_fillBlocks_115 : decode cX3_fillBlocks 115 = .ok (.iastore, 1) := by decide +kernel
theorem dX3_fillBlocks_116 : decode cX3_fillBlocks 116 = .ok (.aload_n 0, 1) := by decide +kernel
theorem dX3_fillBlocks_117 : decode cX3_fillBlocks 117 = .ok (.getfield 13, 3) := by decide +kernel
theorem dX3_fillBlocks_120 : decode cX3_fillBlocks 120 = .ok (.bipush 127, 2) := by decide +kernel
theorem dX3_fillBlocks_122 : decode cX3_fillBlocks 122 = .ok (.iload 5, 2) := by decide +kernel
theorem dX3_fillBlocks_124 : decode cX3_fillBlocks 124 = .ok (.sipush 255, 3) := by decide +kernel
theorem dX3_fillBlocks_127 : decode cX3_fillBlocks 127 = .ok (.iand, 1) := by decide +kernel
theorem dX3_fillBlocks_128 : decode cX3_fillBlocks 128 = .ok (.iastore, 1) := by decide +kernel
theorem dX3_fillBlocks_129 : decode cX3_fillBlocks 129 = .ok (.return_, 1) := by decide +kernel
theorem dX3_hashBlocks_0 : decode cX3_hashBlocks 0 = .ok (.getstatic 29, 3) := by decide +kernel
theorem dX3_hashBlocks_3 : decode cX3_hashBlocks 3 = .ok (.iconst 0, 1) := by decide +kernel
theorem dX3_hashBlocks_4 : decode cX3_hashBlocks 4 = .ok (.aload_n 0, 1) := by decide +kernel
theorem dX3_hashBlocks_5 : decode cX3_hashBlocks 5 = .ok (.getfield 19, 3) := by decide +kernel
theorem dX3_hashBlocks_8 : decode cX3_hashBlocks 8 = .ok (.iconst 0, 1) := by decide +kernel
theorem dX3_hashBlocks_9 : decode cX3_hashBlocks 9 = .ok (.aload_n 0, 1) := by decide +kernel
theorem dX3_hashBlocks_10 : decode cX3_hashBlocks 10 = .ok (.getfield 19, 3) := by decide +kernel
theorem dX3_hashBlocks_13 : decode cX3_hashBlocks 13 = .ok (.arraylength, 1) := by decide +kernel
theorem dX3_hashBlocks_14 : decode cX3_hashBlocks 14 = .ok (.invokestatic 32, 3) := by decide +kernel
theorem dX3_hashBlocks_17 : decode cX3_hashBlocks 17 = .ok (.aload_n 0, 1) := by decide +kernel
theorem dX3_hashBlocks_18 : decode cX3_hashBlocks 18 = .ok (.iconst 0, 1) := by decide +kernel
theorem dX3_hashBlocks_19 : decode cX3_hashBlocks 19 = .ok (.invokevirtual 38, 3) := by decide +kernel
theorem dX3_hashBlocks_22 : decode cX3_hashBlocks 22 = .ok (.aload_n 0, 1) := by decide +kernel
theorem dX3_hashBlocks_23 : decode cX3_hashBlocks 23 = .ok (.invokevirtual 42, 3) := by decide +kernel
theorem dX3_hashBlocks_26 : decode cX3_hashBlocks 26 = .ok (.aload_n 0, 1) := by decide +kernel
theorem dX3_hashBlocks_27 : decode cX3_hashBlocks 27 = .ok (.bipush 64, 2) := by decide +kernel
theorem dX3_hashBlocks_29 : decode cX3_hashBlocks 29 = .ok (.invokevirtual 38, 3) := by decide +kernel
theorem dX3_hashBlocks_32 : decode cX3_hashBlocks 32 = .ok (.aload_n 0, 1) := by decide +kernel
theorem dX3_hashBlocks_33 : decode cX3_hashBlocks 33 = .ok (.invokevirtual 42, 3) := by decide +kernel
theorem dX3_hashBlocks_36 : decode cX3_hashBlocks 36 = .ok (.iconst 0, 1) := by decide +kernel
theorem dX3_hashBlocks_37 : decode cX3_hashBlocks 37 = .ok (.istore_n 1, 1) := by decide +kernel
theorem dX3_hashBlocks_38 : decode cX3_hashBlocks 38 = .ok (.iload_n 1, 1) := by decide +kernel
theorem dX3_hashBlocks_39 : decode cX3_hashBlocks 39 = .ok (.bipush 32, 2) := by decide +kernel
theorem dX3_hashBlocks_41 : decode cX3_hashBlocks 41 = .ok (.if_icmp .ge 29, 3) := by decide +kernel
theorem dX3_hashBlocks_44 : decode cX3_hashBlocks 44 = .ok (.aload_n 0, 1) := by decide +kernel
theorem dX3_hashBlocks_45 : decode cX3_hashBlocks 45 = .ok (.getfield 9, 3) := by decide +kernel
theorem dX3_hashBlocks_48 : decode cX3_hashBlocks 48 = .ok (.iload_n 1, 1) := by decide +kernel
theorem dX3_hashBlocks_49 : decode cX3_hashBlocks 49 = .ok (.aload_n 0, 1) := by decide +kernel
theorem dX3_hashBlocks_50 : decode cX3_hashBlocks 50 = .ok (.getfield 19, 3) := by decide +kernel
theorem dX3_hashBlocks_53 : decode cX3_hashBlocks 53 = .ok (.iload_n 1, 1) := by decide +kernel
theorem dX3_hashBlocks_54 : decode cX3_hashBlocks 54 = .ok (.iconst 4, 1) := by decide +kernel
theorem dX3_hashBlocks_55 : decode cX3_hashBlocks 55 = .ok (.idiv, 1) := by decide +kernel
theorem dX3_hashBlocks_56 : decode cX3_hashBlocks 56 = .ok (.iaload, 1) := by decide +kernel
theorem dX3_hashBlocks_57 : decode cX3_hashBlocks 57 = .ok (.iload_n 1, 1) := by decide +kernel
theorem dX3_hashBlocks_58 : decode cX3_hashBlocks 58 = .ok (.iconst 4, 1) := by decide +kernel
theorem dX3_hashBlocks_59 : decode cX3_hashBlocks 59 = .ok (.irem, 1) := by decide +kernel
theorem dX3_hashBlocks_60 : decode cX3_hashBlocks 60 = .ok (.invokestatic 45, 3) := by decide +kernel
theorem dX3_hashBlocks_63 : decode cX3_hashBlocks 63 = .ok (.iastore, 1) := by decide +kernel
theorem dX3_hashBlocks_64 : decode cX3_hashBlocks 64 = .ok (.iinc 1 1, 3) := by decide +kernel
theorem dX3_hashBlocks_67 : decode cX3_hashBlocks 67 = .ok (.goto (-29), 3) := by decide +kernel
theorem dX3_hashBlocks_70 : decode cX3_hashBlocks 70 = .ok (.return_, 1) := by decide +kernel
theorem dX3_fillSchedule_0 : decode cX3_fillSchedule 0 = .ok (.iconst 0, 1) := by decide +kernel
theorem dX3_fillSchedule_1 : decode cX3_fillSchedule 1 = .ok (.istore_n 2, 1) := by decide +kernel
theorem dX3_fillSchedule_2 : decode cX3_fillSchedule 2 = .ok (.iload_n 2, 1) := by decide +kernel
theorem dX3_fillSchedule_3 : decode cX3_fillSchedule 3 = .ok (.bipush 16, 2) := by decide +kernel
theorem dX3_fillSchedule_5 : decode cX3_fillSchedule 5 = .ok (.if_icmp .ge 63, 3) := by decide +kernel
theorem dX3_fillSchedule_8 : decode cX3_fillSchedule 8 = .ok (.iload_n 1, 1) := by decide +kernel
theorem dX3_fillSchedule_9 : decode cX3_fillSchedule 9 = .ok (.iconst 4, 1) := by decide +kernel
theorem dX3_fillSchedule_10 : decode cX3_fillSchedule 10 = .ok (.iload_n 2, 1) := by decide +kernel
theorem dX3_fillSchedule_11 : decode cX3_fillSchedule 11 = .ok (.imul, 1) := by decide +kernel
theorem dX3_fillSchedule_12 : decode cX3_fillSchedule 12 = .ok (.iadd, 1) := by decide +kernel
theorem dX3_fillSchedule_13 : decode cX3_fillSchedule 13 = .ok (.istore_n 3, 1) := by decide +kernel
theorem dX3_fillSchedule_14 : decode cX3_fillSchedule 14 = .ok (.aload_n 0, 1) := by decide +kernel
theorem dX3_fillSchedule_15 : decode cX3_fillSchedule 15 = .ok (.getfield 16, 3) := by decide +kernel
theorem dX3_fillSchedule_18 : decode cX3_fillSchedule 18 = .ok (.iload_n 2, 1) := by decide +kernel
theorem dX3_fillSchedule_19 : decode cX3_fillSchedule 19 = .ok (.aload_n 0, 1) := by decide +kernel
theorem dX3_fillSchedule_20 : decode cX3_fillSchedule 20 = .ok (.getfield 13, 3) := by decide +kernel
theorem dX3_fillSchedule_23 : decode cX3_fillSchedule 23 = .ok (.iload_n 3, 1) := by decide +kernel
theorem dX3_fillSchedule_24 : decode cX3_fillSchedule 24 = .ok (.iaload, 1) := by decide +kernel
theorem dX3_fillSchedule_25 : decode cX3_fillSchedule 25 = .ok (.bipush 24, 2) := by decide +kernel
theorem dX3_fillSchedule_27 : decode cX3_fillSchedule 27 = .ok (.ishl, 1) := by decide +kernel
theorem dX3_fillSchedule_28 : decode cX3_fillSchedule 28 = .ok (.aload_n 0, 1) := by decide +kernel
theorem dX3_fillSchedule_29 : decode cX3_fillSchedule 29 = .ok (.getfield 13, 3) := by decide +kernel
theorem dX3_fillSchedule_32 : decode cX3_fillSchedule 32 = .ok (.iload_n 3, 1) := by decide +kernel
theorem dX3_fillSchedule_33 : decode cX3_fillSchedule 33 = .ok (.iconst 1, 1) := by decide +kernel
theorem dX3_fillSchedule_34 : decode cX3_fillSchedule 34 = .ok (.iadd, 1) := by decide +kernel
theorem dX3_fillSchedule_35 : decode cX3_fillSchedule 35 = .ok (.iaload, 1) := by decide +kernel
theorem dX3_fillSchedule_36 : decode cX3_fillSchedule 36 = .ok (.bipush 16, 2) := by decide +kernel
theorem dX3_fillSchedule_38 : decode cX3_fillSchedule 38 = .ok (.ishl, 1) := by decide +kernel
theorem dX3_fillSchedule_39 : decode cX3_fillSchedule 39 = .ok (.ior, 1) := by decide +kernel
theorem dX3_fillSchedule_40 : decode cX3_fillSchedule 40 = .ok (.aload_n 0, 1) := by decide +kernel
theorem dX3_fillSchedule_41 : decode cX3_fillSchedule 41 = .ok (.getfield 13, 3) := by decide +kernel
theorem dX3_fillSchedule_44 : decode cX3_fillSchedule 44 = .ok (.iload_n 3, 1) := by decide +kernel
theorem dX3_fillSchedule_45 : decode cX3_fillSchedule 45 = .ok (.iconst 2, 1) := by decide +kernel
theorem dX3_fillSchedule_46 : decode cX3_fillSchedule 46 = .ok (.iadd, 1) := by decide +kernel
theorem dX3_fillSchedule_47 : decode cX3_fillSchedule 47 = .ok (.iaload, 1) := by decide +kernel
theorem dX3_fillSchedule_48 : decode cX3_fillSchedule 48 = .ok (.bipush 8, 2) := by decide +kernel
theorem dX3_fillSchedule_50 : decode cX3_fillSchedule 50 = .ok (.ishl, 1) := by decide +kernel
theorem dX3_fillSchedule_51 : decode cX3_fillSchedule 51 = .ok (.ior, 1) := by decide +kernel
theorem dX3_fillSchedule_52 : decode cX3_fillSchedule 52 = .ok (.aload_n 0, 1) := by decide +kernel
theorem dX3_fillSchedule_53 : decode cX3_fillSchedule 53 = .ok (.getfield 13, 3) := by decide +kernel
theorem dX3_fillSchedule_56 : decode cX3_fillSchedule 56 = .ok (.iload_n 3, 1) := by decide +kernel
theorem dX3_fillSchedule_57 : decode cX3_fillSchedule 57 = .ok (.iconst 3, 1) := by decide +kernel
theorem dX3_fillSchedule_58 : decode cX3_fillSchedule 58 = .ok (.iadd, 1) := by decide +kernel
theorem dX3_fillSchedule_59 : decode cX3_fillSchedule 59 = .ok (.iaload, 1) := by decide +kernel
theorem dX3_fillSchedule_60 : decode cX3_fillSchedule 60 = .ok (.ior, 1) := by decide +kernel
theorem dX3_fillSchedule_61 : decode cX3_fillSchedule 61 = .ok (.iastore, 1) := by decide +kernel
theorem dX3_fillSchedule_62 : decode cX3_fillSchedule 62 = .ok (.iinc 2 1, 3) := by decide +kernel
theorem dX3_fillSchedule_65 : decode cX3_fillSchedule 65 = .ok (.goto (-63), 3) := by decide +kernel
theorem dX3_fillSchedule_68 : decode cX3_fillSchedule 68 = .ok (.bipush 16, 2) := by decide +kernel
theorem dX3_fillSchedule_70 : decode cX3_fillSchedule 70 = .ok (.istore_n 2, 1) := by decide +kernel
theorem dX3_fillSchedule_71 : decode cX3_fillSchedule 71 = .ok (.iload_n 2, 1) := by decide +kernel
theorem dX3_fillSchedule_72 : decode cX3_fillSchedule 72 = .ok (.bipush 64, 2) := by decide +kernel
theorem dX3_fillSchedule_74 : decode cX3_fillSchedule 74 = .ok (.if_icmp .ge 102, 3) := by decide +kernel
theorem dX3_fillSchedule_77 : decode cX3_fillSchedule 77 = .ok (.aload_n 0, 1) := by decide +kernel
theorem dX3_fillSchedule_78 : decode cX3_fillSchedule 78 = .ok (.getfield 16, 3) := by decide +kernel
theorem dX3_fillSchedule_81 : decode cX3_fillSchedule 81 = .ok (.iload_n 2, 1) := by decide +kernel
theorem dX3_fillSchedule_82 : decode cX3_fillSchedule 82 = .ok (.iconst 2, 1) := by decide +kernel
theorem dX3_fillSchedule_83 : decode cX3_fillSchedule 83 = .ok (.isub, 1) := by decide +kernel
theorem dX3_fillSchedule_84 : decode cX3_fillSchedule 84 = .ok (.iaload, 1) := by decide +kernel
theorem dX3_fillSchedule_85 : decode cX3_fillSchedule 85 = .ok (.istore_n 3, 1) := by decide +kernel
theorem dX3_fillSchedule_86 : decode cX3_fillSchedule 86 = .ok (.aload_n 0, 1) := by decide +kernel
theorem dX3_fillSchedule_87 : decode cX3_fillSchedule 87 = .ok (.getfield 16, 3) := by decide +kernel
theorem dX3_fillSchedule_90 : decode cX3_fillSchedule 90 = .ok (.iload_n 2, 1) := by decide +kernel
theorem dX3_fillSchedule_91 : decode cX3_fillSchedule 91 = .ok (.bipush 15, 2) := by decide +kernel
theorem dX3_fillSchedule_93 : decode cX3_fillSchedule 93 = .ok (.isub, 1) := by decide +kernel
theorem dX3_fillSchedule_94 : decode cX3_fillSchedule 94 = .ok (.iaload, 1) := by decide +kernel
theorem dX3_fillSchedule_95 : decode cX3_fillSchedule 95 = .ok (.istore 4, 2) := by decide +kernel
theorem dX3_fillSchedule_97 : decode cX3_fillSchedule 97 = .ok (.iload_n 3, 1) := by decide +kernel
theorem dX3_fillSchedule_98 : decode cX3_fillSchedule 98 = .ok (.bipush 17, 2) := by decide +kernel
theorem dX3_fillSchedule_100 : decode cX3_fillSchedule 100 = .ok (.invokestatic 51, 3) := by decide +kernel
theorem dX3_fillSchedule_103 : decode cX3_fillSchedule 103 = .ok (.iload_n 3, 1) := by decide +kernel
theorem dX3_fillSchedule_104 : decode cX3_fillSchedule 104 = .ok (.bipush 19, 2) := by decide +kernel
theorem dX3_fillSchedule_106 : decode cX3_fillSchedule 106 = .ok (.invokestatic 51, 3) := by decide +kernel
theorem dX3_fillSchedule_109 : decode cX3_fillSchedule 109 = .ok (.ixor, 1) := by decide +kernel
theorem dX3_fillSchedule_110 : decode cX3_fillSchedule 110 = .ok (.iload_n 3, 1) := by decide +kernel
theorem dX3_fillSchedule_111 : decode cX3_fillSchedule 111 = .ok (.bipush 10, 2) := by decide +kernel
theorem dX3_fillSchedule_113 : decode cX3_fillSchedule 113 = .ok (.iushr, 1) := by decide +kernel
theorem dX3_fillSchedule_114 : decode cX3_fillSchedule 114 = .ok (.ixor, 1) := by decide +kernel
theorem dX3_fillSchedule_115 : decode cX3_fillSchedule 115 = .ok (.istore 5, 2) := by decide +kernel
theorem dX3_fillSchedule_117 : decode cX3_fillSchedule 117 = .ok (.iload 4, 2) := by decide +kernel
theorem dX3_fillSchedule_119 : decode cX3_fillSchedule 119 = .ok (.bipush 7, 2) := by decide +kernel
theorem dX3_fillSchedule_121 : decode cX3_fillSchedule 121 = .ok (.invokestatic 51, 3) := by decide +kernel
theorem dX3_fillSchedule_124 : decode cX3_fillSchedule 124 = .ok (.iload 4, 2) := by decide +kernel
theorem dX3_fillSchedule_126 : decode cX3_fillSchedule 126 = .ok (.bipush 18, 2) := by decide +kernel
theorem dX3_fillSchedule_128 : decode cX3_fillSchedule 128 = .ok (.invokestatic 51, 3) := by decide +kernel
theorem dX3_fillSchedule_131 : decode cX3_fillSchedule 131 = .ok (.ixor, 1) := by decide +kernel
theorem dX3_fillSchedule_132 : decode cX3_fillSchedule 132 = .ok (.iload 4, 2) := by decide +kernel
theorem dX3_fillSchedule_134 : decode cX3_fillSchedule 134 = .ok (.iconst 3, 1) := by decide +kernel
theorem dX3_fillSchedule_135 : decode cX3_fillSchedule 135 = .ok (.iushr, 1) := by decide +kernel
theorem dX3_fillSchedule_136 : decode cX3_fillSchedule 136 = .ok (.ixor, 1) := by decide +kernel
theorem dX3_fillSchedule_137 : decode cX3_fillSchedule 137 = .ok (.istore 6, 2) := by decide +kernel
theorem dX3_fillSchedule_139 : decode cX3_fillSchedule 139 = .ok (.aload_n 0, 1) := by decide +kernel
theorem dX3_fillSchedule_140 : decode cX3_fillSchedule 140 = .ok (.getfield 16, 3) := by decide +kernel
theorem dX3_fillSchedule_143 : decode cX3_fillSchedule 143 = .ok (.iload_n 2, 1) := by decide +kernel
theorem dX3_fillSchedule_144 : decode cX3_fillSchedule 144 = .ok (.iload 5, 2) := by decide +kernel
theorem dX3_fillSchedule_146 : decode cX3_fillSchedule 146 = .ok (.aload_n 0, 1) := by decide +kernel
theorem dX3_fillSchedule_147 : decode cX3_fillSchedule 147 = .ok (.getfield 16, 3) := by decide +kernel
theorem dX3_fillSchedule_150 : decode cX3_fillSchedule 150 = .ok (.iload_n 2, 1) := by decide +kernel
theorem dX3_fillSchedule_151 : decode cX3_fillSchedule 151 = .ok (.bipush 7, 2) := by decide +kernel
theorem dX3_fillSchedule_153 : decode cX3_fillSchedule 153 = .ok (.isub, 1) := by decide +kernel
theorem dX3_fillSchedule_154 : decode cX3_fillSchedule 154 = .ok (.iaload, 1) := by decide +kernel
theorem dX3_fillSchedule_155 : decode cX3_fillSchedule 155 = .ok (.iadd, 1) := by decide +kernel
theorem dX3_fillSchedule_156 : decode cX3_fillSchedule 156 = .ok (.iload 6, 2) := by decide +kernel
theorem dX3_fillSchedule_158 : decode cX3_fillSchedule 158 = .ok (.iadd, 1) := by decide +kernel
theorem dX3_fillSchedule_159 : decode cX3_fillSchedule 159 = .ok (.aload_n 0, 1) := by decide +kernel
theorem dX3_fillSchedule_160 : decode cX3_fillSchedule 160 = .ok (.getfield 16, 3) := by decide +kernel
theorem dX3_fillSchedule_163 : decode cX3_fillSchedule 163 = .ok (.iload_n 2, 1) := by decide +kernel
theorem dX3_fillSchedule_164 : decode cX3_fillSchedule 164 = .ok (.bipush 16, 2) := by decide +kernel
theorem dX3_fillSchedule_166 : decode cX3_fillSchedule 166 = .ok (.isub, 1) := by decide +kernel
theorem dX3_fillSchedule_167 : decode cX3_fillSchedule 167 = .ok (.iaload, 1) := by decide +kernel
theorem dX3_fillSchedule_168 : decode cX3_fillSchedule 168 = .ok (.iadd, 1) := by decide +kernel
theorem dX3_fillSchedule_169 : decode cX3_fillSchedule 169 = .ok (.iastore, 1) := by decide +kernel
theorem dX3_fillSchedule_170 : decode cX3_fillSchedule 170 = .ok (.iinc 2 1, 3) := by decide +kernel
theorem dX3_fillSchedule_173 : decode cX3_fillSchedule 173 = .ok (.goto (-102), 3) := by decide +kernel
theorem dX3_fillSchedule_176 : decode cX3_fillSchedule 176 = .ok (.return_, 1) := by decide +kernel
theorem dX3_mixSchedule_0 : decode cX3_mixSchedule 0 = .ok (.aload_n 0, 1) := by decide +kernel
theorem dX3_mixSchedule_1 : decode cX3_mixSchedule 1 = .ok (.getfield 19, 3) := by decide +kernel
theorem dX3_mixSchedule_4 : decode cX3_mixSchedule 4 = .ok (.iconst 0, 1) := by decide +kernel
theorem dX3_mixSchedule_5 : decode cX3_mixSchedule 5 = .ok (.iaload, 1) := by decide +kernel
theorem dX3_mixSchedule_6 : decode cX3_mixSchedule 6 = .ok (.istore_n 1, 1) := by decide +kernel
theorem dX3_mixSchedule_7 : decode cX3_mixSchedule 7 = .ok (.aload_n 0, 1) := by decide +kernel
theorem dX3_mixSchedule_8 : decode cX3_mixSchedule 8 = .ok (.getfield 19, 3) := by decide +kernel
theorem dX3_mixSchedule_11 : decode cX3_mixSchedule 11 = .ok (.iconst 1, 1) := by decide +kernel
theorem dX3_mixSchedule_12 : decode cX3_mixSchedule 12 = .ok (.iaload, 1) := by decide +kernel
theorem dX3_mixSchedule_13 : decode cX3_mixSchedule 13 = .ok (.istore_n 2, 1) := by decide +kernel
theorem dX3_mixSchedule_14 : decode cX3_mixSchedule 14 = .ok (.aload_n 0, 1) := by decide +kernel
theorem dX3_mixSchedule_15 : decode cX3_mixSchedule 15 = .ok (.getfield 19, 3) := by decide +kernel
theorem dX3_mixSchedule_18 : decode cX3_mixSchedule 18 = .ok (.iconst 2, 1) := by decide +kernel
theorem dX3_mixSchedule_19 : decode cX3_mixSchedule 19 = .ok (.iaload, 1) := by decide +kernel
theorem dX3_mixSchedule_20 : decode cX3_mixSchedule 20 = .ok (.istore_n 3, 1) := by decide +kernel
theorem dX3_mixSchedule_21 : decode cX3_mixSchedule 21 = .ok (.aload_n 0, 1) := by decide +kernel
theorem dX3_mixSchedule_22 : decode cX3_mixSchedule 22 = .ok (.getfield 19, 3) := by decide +kernel
theorem dX3_mixSchedule_25 : decode cX3_mixSchedule 25 = .ok (.iconst 3, 1) := by decide +kernel
theorem dX3_mixSchedule_26 : decode cX3_mixSchedule 26 = .ok (.iaload, 1) := by decide +kernel
theorem dX3_mixSchedule_27 : decode cX3_mixSchedule 27 = .ok (.istore 4, 2) := by decide +kernel
theorem dX3_mixSchedule_29 : decode cX3_mixSchedule 29 = .ok (.aload_n 0, 1) := by decide +kernel
theorem dX3_mixSchedule_30 : decode cX3_mixSchedule 30 = .ok (.getfield 19, 3) := by decide +kernel
theorem dX3_mixSchedule_33 : decode cX3_mixSchedule 33 = .ok (.iconst 4, 1) := by decide +kernel
theorem dX3_mixSchedule_34 : decode cX3_mixSchedule 34 = .ok (.iaload, 1) := by decide +kernel
theorem dX3_mixSchedule_35 : decode cX3_mixSchedule 35 = .ok (.istore 5, 2) := by decide +kernel
theorem dX3_mixSchedule_37 : decode cX3_mixSchedule 37 = .ok (.aload_n 0, 1) := by decide +kernel
theorem dX3_mixSchedule_38 : decode cX3_mixSchedule 38 = .ok (.getfield 19, 3) := by decide +kernel
theorem dX3_mixSchedule_41 : decode cX3_mixSchedule 41 = .ok (.iconst 5, 1) := by decide +kernel
theorem dX3_mixSchedule_42 : decode cX3_mixSchedule 42 = .ok (.iaload, 1) := by decide +kernel
theorem dX3_mixSchedule_43 : decode cX3_mixSchedule 43 = .ok (.istore 6, 2) := by decide +kernel
theorem dX3_mixSchedule_45 : decode cX3_mixSchedule 45 = .ok (.aload_n 0, 1) := by decide +kernel
theorem dX3_mixSchedule_46 : decode cX3_mixSchedule 46 = .ok (.getfield 19, 3) := by decide +kernel
theorem dX3_mixSchedule_49 : decode cX3_mixSchedule 49 = .ok (.bipush 6, 2) := by decide +kernel
theorem dX3_mixSchedule_51 : decode cX3_mixSchedule 51 = .ok (.iaload, 1) := by decide +kernel
theorem dX3_mixSchedule_52 : decode cX3_mixSchedule 52 = .ok (.istore 7, 2) := by decide +kernel
theorem dX3_mixSchedule_54 : decode cX3_mixSchedule 54 = .ok (.aload_n 0, 1) := by decide +kernel
theorem dX3_mixSchedule_55 : decode cX3_mixSchedule 55 = .ok (.getfield 19, 3) := by decide +kernel
theorem dX3_mixSchedule_58 : decode cX3_mixSchedule 58 = .ok (.bipush 7, 2) := by decide +kernel
theorem dX3_mixSchedule_60 : decode cX3_mixSchedule 60 = .ok (.iaload, 1) := by decide +kernel
theorem dX3_mixSchedule_61 : decode cX3_mixSchedule 61 = .ok (.istore 8, 2) := by decide +kernel
theorem dX3_mixSchedule_63 : decode cX3_mixSchedule 63 = .ok (.iconst 0, 1) := by decide +kernel
theorem dX3_mixSchedule_64 : decode cX3_mixSchedule 64 = .ok (.istore 9, 2) := by decide +kernel
theorem dX3_mixSchedule_66 : decode cX3_mixSchedule 66 = .ok (.iload 9, 2) := by decide +kernel
theorem dX3_mixSchedule_68 : decode cX3_mixSchedule 68 = .ok (.bipush 64, 2) := by decide +kernel
theorem dX3_mixSchedule_70 : decode cX3_mixSchedule 70 = .ok (.if_icmp .ge 139, 3) := by decide +kernel
theorem dX3_mixSchedule_73 : decode cX3_mixSchedule 73 = .ok (.iload 5, 2) := by decide +kernel
theorem dX3_mixSchedule_75 : decode cX3_mixSchedule 75 = .ok (.iload 6, 2) := by decide +kernel
theorem dX3_mixSchedule_77 : decode cX3_mixSchedule 77 = .ok (.iand, 1) := by decide +kernel
theorem dX3_mixSchedule_78 : decode cX3_mixSchedule 78 = .ok (.iload 5, 2) := by decide +kernel
theorem dX3_mixSchedule_80 : decode cX3_mixSchedule 80 = .ok (.iconst (-1), 1) := by decide +kernel
theorem dX3_mixSchedule_81 : decode cX3_mixSchedule 81 = .ok (.ixor, 1) := by decide +kernel
theorem dX3_mixSchedule_82 : decode cX3_mixSchedule 82 = .ok (.iload 7, 2) := by decide +kernel
theorem dX3_mixSchedule_84 : decode cX3_mixSchedule 84 = .ok (.iand, 1) := by decide +kernel
theorem dX3_mixSchedule_85 : decode cX3_mixSchedule 85 = .ok (.ixor, 1) := by decide +kernel
theorem dX3_mixSchedule_86 : decode cX3_mixSchedule 86 = .ok (.istore 10, 2) := by decide +kernel
theorem dX3_mixSchedule_88 : decode cX3_mixSchedule 88 = .ok (.iload_n 1, 1) := by decide +kernel
theorem dX3_mixSchedule_89 : decode cX3_mixSchedule 89 = .ok (.iload_n 2, 1) := by decide +kernel
theorem dX3_mixSchedule_90 : decode cX3_mixSchedule 90 = .ok (.iand, 1) := by decide +kernel
theorem dX3_mixSchedule_91 : decode cX3_mixSchedule 91 = .ok (.iload_n 1, 1) := by decide +kernel
theorem dX3_mixSchedule_92 : decode cX3_mixSchedule 92 = .ok (.iload_n 3, 1) := by decide +kernel
theorem dX3_mixSchedule_93 : decode cX3_mixSchedule 93 = .ok (.iand, 1) := by decide +kernel
theorem dX3_mixSchedule_94 : decode cX3_mixSchedule 94 = .ok (.ixor, 1) := by decide +kernel
theorem dX3_mixSchedule_95 : decode cX3_mixSchedule 95 = .ok (.iload_n 2, 1) := by decide +kernel
theorem dX3_mixSchedule_96 : decode cX3_mixSchedule 96 = .ok (.iload_n 3, 1) := by decide +kernel
theorem dX3_mixSchedule_97 : decode cX3_mixSchedule 97 = .ok (.iand, 1) := by decide +kernel
theorem dX3_mixSchedule_98 : decode cX3_mixSchedule 98 = .ok (.ixor, 1) := by decide +kernel
theorem dX3_mixSchedule_99 : decode cX3_mixSchedule 99 = .ok (.istore 11, 2) := by decide +kernel
theorem dX3_mixSchedule_101 : decode cX3_mixSchedule 101 = .ok (.iload 8, 2) := by decide +kernel
theorem dX3_mixSchedule_103 : decode cX3_mixSchedule 103 = .ok (.iload 5, 2) := by decide +kernel
theorem dX3_mixSchedule_105 : decode cX3_mixSchedule 105 = .ok (.bipush 6, 2) := by decide +kernel
theorem dX3_mixSchedule_107 : decode cX3_mixSchedule 107 = .ok (.invokestatic 51, 3) := by decide +kernel
theorem dX3_mixSchedule_110 : decode cX3_mixSchedule 110 = .ok (.iload 5, 2) := by decide +kernel
theorem dX3_mixSchedule_112 : decode cX3_mixSchedule 112 = .ok (.bipush 11, 2) := by decide +kernel
theorem dX3_mixSchedule_114 : decode cX3_mixSchedule 114 = .ok (.invokestatic 51, 3) := by decide +kernel
theorem dX3_mixSchedule_117 : decode cX3_mixSchedule 117 = .ok (.ixor, 1) := by decide +kernel
theorem dX3_mixSchedule_118 : decode cX3_mixSchedule 118 = .ok (.iload 5, 2) := by decide +kernel
theorem dX3_mixSchedule_120 : decode cX3_mixSchedule 120 = .ok (.bipush 25, 2) := by decide +kernel
theorem dX3_mixSchedule_122 : decode cX3_mixSchedule 122 = .ok (.invokestatic 51, 3) := by decide +kernel
theorem dX3_mixSchedule_125 : decode cX3_mixSchedule 125 = .ok (.ixor, 1) := by decide +kernel
theorem dX3_mixSchedule_126 : decode cX3_mixSchedule 126 = .ok (.iadd, 1) := by decide +kernel
theorem dX3_mixSchedule_127 : decode cX3_mixSchedule 127 = .ok (.iload 10, 2) := by decide +kernel
theorem dX3_mixSchedule_129 : decode cX3_mixSchedule 129 = .ok (.iadd, 1) := by decide +kernel
theorem dX3_mixSchedule_130 : decode cX3_mixSchedule 130 = .ok (.getstatic 54, 3) := by decide +kernel
theorem dX3_mixSchedule_133 : decode cX3_mixSchedule 133 = .ok (.iload 9, 2) := by decide +kernel
theorem dX3_mixSchedule_135 : decode cX3_mixSchedule 135 = .ok (.iaload, 1) := by decide +kernel
theorem dX3_mixSchedule_136 : decode cX3_mixSchedule 136 = .ok (.iadd, 1) := by decide +kernel
theorem dX3_mixSchedule_137 : decode cX3_mixSchedule 137 = .ok (.aload_n 0, 1) := by decide +kernel
theorem dX3_mixSchedule_138 : decode cX3_mixSchedule 138 = .ok (.getfield 16, 3) := by decide +kernel
theorem dX3_mixSchedule_141 : decode cX3_mixSchedule 141 = .ok (.iload 9, 2) := by decide +kernel
theorem dX3_mixSchedule_143 : decode cX3_mixSchedule 143 = .ok (.iaload, 1) := by decide +kernel
theorem dX3_mixSchedule_144 : decode cX3_mixSchedule 144 = .ok (.iadd, 1) := by decide +kernel
theorem dX3_mixSchedule_145 : decode cX3_mixSchedule 145 = .ok (.istore 12, 2) := by decide +kernel
theorem dX3_mixSchedule_147 : decode cX3_mixSchedule 147 = .ok (.iload_n 1, 1) := by decide +kernel
theorem dX3_mixSchedule_148 : decode cX3_mixSchedule 148 = .ok (.iconst 2, 1) := by decide +kernel
theorem dX3_mixSchedule_149 : decode cX3_mixSchedule 149 = .ok (.invokestatic 51, 3) := by decide +kernel
theorem dX3_mixSchedule_152 : decode cX3_mixSchedule 152 = .ok (.iload_n 1, 1) := by decide +kernel
theorem dX3_mixSchedule_153 : decode cX3_mixSchedule 153 = .ok (.bipush 13, 2) := by decide +kernel
theorem dX3_mixSchedule_155 : decode cX3_mixSchedule 155 = .ok (.invokestatic 51, 3) := by decide +kernel
theorem dX3_mixSchedule_158 : decode cX3_mixSchedule 158 = .ok (.ixor, 1) := by decide +kernel
theorem dX3_mixSchedule_159 : decode cX3_mixSchedule 159 = .ok (.iload_n 1, 1) := by decide +kernel
theorem dX3_mixSchedule_160 : decode cX3_mixSchedule 160 = .ok (.bipush 22, 2) := by decide +kernel
theorem dX3_mixSchedule_162 : decode cX3_mixSchedule 162 = .ok (.invokestatic 51, 3) := by decide +kernel
theorem dX3_mixSchedule_165 : decode cX3_mixSchedule 165 = .ok (.ixor, 1) := by decide +kernel
theorem dX3_mixSchedule_166 : decode cX3_mixSchedule 166 = .ok (.iload 11, 2) := by decide +kernel
theorem dX3_mixSchedule_168 : decode cX3_mixSchedule 168 = .ok (.iadd, 1) := by decide +kernel
theorem dX3_mixSchedule_169 : decode cX3_mixSchedule 169 = .ok (.istore 13, 2) := by decide +kernel
theorem dX3_mixSchedule_171 : decode cX3_mixSchedule 171 = .ok (.iload 7, 2) := by decide +kernel
theorem dX3_mixSchedule_173 : decode cX3_mixSchedule 173 = .ok (.istore 8, 2) := by decide +kernel
theorem dX3_mixSchedule_175 : decode cX3_mixSchedule 175 = .ok (.iload 6, 2) := by decide +kernel
theorem dX3_mixSchedule_177 : decode cX3_mixSchedule 177 = .ok (.istore 7, 2) := by decide +kernel
theorem dX3_mixSchedule_179 : decode cX3_mixSchedule 179 = .ok (.iload 5, 2) := by decide +kernel
theorem dX3_mixSchedule_181 : decode cX3_mixSchedule 181 = .ok (.istore 6, 2) := by decide +kernel
theorem dX3_mixSchedule_183 : decode cX3_mixSchedule 183 = .ok (.iload 4, 2) := by decide +kernel
theorem dX3_mixSchedule_185 : decode cX3_mixSchedule 185 = .ok (.iload 12, 2) := by decide +kernel
theorem dX3_mixSchedule_187 : decode cX3_mixSchedule 187 = .ok (.iadd, 1) := by decide +kernel
theorem dX3_mixSchedule_188 : decode cX3_mixSchedule 188 = .ok (.istore 5, 2) := by decide +kernel
theorem dX3_mixSchedule_190 : decode cX3_mixSchedule 190 = .ok (.iload_n 3, 1) := by decide +kernel
theorem dX3_mixSchedule_191 : decode cX3_mixSchedule 191 = .ok (.istore 4, 2) := by decide +kernel
theorem dX3_mixSchedule_193 : decode cX3_mixSchedule 193 = .ok (.iload_n 2, 1) := by decide +kernel
theorem dX3_mixSchedule_194 : decode cX3_mixSchedule 194 = .ok (.istore_n 3, 1) := by decide +kernel
theorem dX3_mixSchedule_195 : decode cX3_mixSchedule 195 = .ok (.iload_n 1, 1) := by decide +kernel
theorem dX3_mixSchedule_196 : decode cX3_mixSchedule 196 = .ok (.istore_n 2, 1) := by decide +kernel
theorem dX3_mixSchedule_197 : decode cX3_mixSchedule 197 = .ok (.iload 12, 2) := by decide +kernel
theorem dX3_mixSchedule_199 : decode cX3_mixSchedule 199 = .ok (.iload 13, 2) := by decide +kernel
theorem dX3_mixSchedule_201 : decode cX3_mixSchedule 201 = .ok (.iadd, 1) := by decide +kernel
theorem dX3_mixSchedule_202 : decode cX3_mixSchedule 202 = .ok (.istore_n 1, 1) := by decide +kernel
theorem dX3_mixSchedule_203 : decode cX3_mixSchedule 203 = .ok (.iinc 9 1, 3) := by decide +kernel
theorem dX3_mixSchedule_206 : decode cX3_mixSchedule 206 = .ok (.goto (-140), 3) := by decide +kernel
theorem dX3_mixSchedule_209 : decode cX3_mixSchedule 209 = .ok (.aload_n 0, 1) := by decide +kernel
theorem dX3_mixSchedule_210 : decode cX3_mixSchedule 210 = .ok (.getfield 19, 3) := by decide +kernel
theorem dX3_mixSchedule_213 : decode cX3_mixSchedule 213 = .ok (.iconst 0, 1) := by decide +kernel
theorem dX3_mixSchedule_214 : decode cX3_mixSchedule 214 = .ok (.dup2, 1) := by decide +kernel
theorem dX3_mixSchedule_215 : decode cX3_mixSchedule 215 = .ok (.iaload, 1) := by decide +kernel
theorem dX3_mixSchedule_216 : decode cX3_mixSchedule 216 = .ok (.iload_n 1, 1) := by decide +kernel
theorem dX3_mixSchedule_217 : decode cX3_mixSchedule 217 = .ok (.iadd, 1) := by decide +kernel
theorem dX3_mixSchedule_218 : decode cX3_mixSchedule 218 = .ok (.iastore, 1) := by decide +kernel
theorem dX3_mixSchedule_219 : decode cX3_mixSchedule 219 = .ok (.aload_n 0, 1) := by decide +kernel
theorem dX3_mixSchedule_220 : decode cX3_mixSchedule 220 = .ok (.getfield 19, 3) := by decide +kernel
theorem dX3_mixSchedule_223 : decode cX3_mixSchedule 223 = .ok (.iconst 1, 1) := by decide +kernel
theorem dX3_mixSchedule_224 : decode cX3_mixSchedule 224 = .ok (.dup2, 1) := by decide +kernel
theorem dX3_mixSchedule_225 : decode cX3_mixSchedule 225 = .ok (.iaload, 1) := by decide +kernel
theorem dX3_mixSchedule_226 : decode cX3_mixSchedule 226 = .ok (.iload_n 2, 1) := by decide +kernel
theorem dX3_mixSchedule_227 : decode cX3_mixSchedule 227 = .ok (.iadd, 1) := by decide +kernel
theorem dX3_mixSchedule_228 : decode cX3_mixSchedule 228 = .ok (.iastore, 1) := by decide +kernel
theorem dX3_mixSchedule_229 : decode cX3_mixSchedule 229 = .ok (.aload_n 0, 1) := by decide +kernel
theorem dX3_mixSchedule_230 : decode cX3_mixSchedule 230 = .ok (.getfield 19, 3) := by decide +kernel
theorem dX3_mixSchedule_233 : decode cX3_mixSchedule 233 = .ok (.iconst 2, 1) := by decide +kernel
theorem dX3_mixSchedule_234 : decode cX3_mixSchedule 234 = .ok (.dup2, 1) := by decide +kernel
theorem dX3_mixSchedule_235 : decode cX3_mixSchedule 235 = .ok (.iaload, 1) := by decide +kernel
theorem dX3_mixSchedule_236 : decode cX3_mixSchedule 236 = .ok (.iload_n 3, 1) := by decide +kernel
theorem dX3_mixSchedule_237 : decode cX3_mixSchedule 237 = .ok (.iadd, 1) := by decide +kernel
theorem dX3_mixSchedule_238 : decode cX3_mixSchedule 238 = .ok (.iastore, 1) := by decide +kernel
theorem dX3_mixSchedule_239 : decode cX3_mixSchedule 239 = .ok (.aload_n 0, 1) := by decide +kernel
theorem dX3_mixSchedule_240 : decode cX3_mixSchedule 240 = .ok (.getfield 19, 3) := by decide +kernel
theorem dX3_mixSchedule_243 : decode cX3_mixSchedule 243 = .ok (.iconst 3, 1) := by decide +kernel
theorem dX3_mixSchedule_244 : decode cX3_mixSchedule 244 = .ok (.dup2, 1) := by decide +kernel
theorem dX3_mixSchedule_245 : decode cX3_mixSchedule 245 = .ok (.iaload, 1) := by decide +kernel
theorem dX3_mixSchedule_246 : decode cX3_mixSchedule 246 = .ok (.iload 4, 2) := by decide +kernel
theorem dX3_mixSchedule_248 : decode cX3_mixSchedule 248 = .ok (.iadd, 1) := by decide +kernel
theorem dX3_mixSchedule_249 : decode cX3_mixSchedule 249 = .ok (.iastore, 1) := by decide +kernel
theorem dX3_mixSchedule_250 : decode cX3_mixSchedule 250 = .ok (.aload_n 0, 1) := by decide +kernel
theorem dX3_mixSchedule_251 : decode cX3_mixSchedule 251 = .ok (.getfield 19, 3) := by decide +kernel
theorem dX3_mixSchedule_254 : decode cX3_mixSchedule 254 = .ok (.iconst 4, 1) := by decide +kernel
theorem dX3_mixSchedule_255 : decode cX3_mixSchedule 255 = .ok (.dup2, 1) := by decide +kernel
theorem dX3_mixSchedule_256 : decode cX3_mixSchedule 256 = .ok (.iaload, 1) := by decide +kernel
theorem dX3_mixSchedule_257 : decode cX3_mixSchedule 257 = .ok (.iload 5, 2) := by decide +kernel
theorem dX3_mixSchedule_259 : decode cX3_mixSchedule 259 = .ok (.iadd, 1) := by decide +kernel
theorem dX3_mixSchedule_260 : decode cX3_mixSchedule 260 = .ok (.iastore, 1) := by decide +kernel
theorem dX3_mixSchedule_261 : decode cX3_mixSchedule 261 = .ok (.aload_n 0, 1) := by decide +kernel
theorem dX3_mixSchedule_262 : decode cX3_mixSchedule 262 = .ok (.getfield 19, 3) := by decide +kernel
theorem dX3_mixSchedule_265 : decode cX3_mixSchedule 265 = .ok (.iconst 5, 1) := by decide +kernel
theorem dX3_mixSchedule_266 : decode cX3_mixSchedule 266 = .ok (.dup2, 1) := by decide +kernel
theorem dX3_mixSchedule_267 : decode cX3_mixSchedule 267 = .ok (.iaload, 1) := by decide +kernel
theorem dX3_mixSchedule_268 : decode cX3_mixSchedule 268 = .ok (.iload 6, 2) := by decide +kernel
theorem dX3_mixSchedule_270 : decode cX3_mixSchedule 270 = .ok (.iadd, 1) := by decide +kernel
theorem dX3_mixSchedule_271 : decode cX3_mixSchedule 271 = .ok (.iastore, 1) := by decide +kernel
theorem dX3_mixSchedule_272 : decode cX3_mixSchedule 272 = .ok (.aload_n 0, 1) := by decide +kernel
theorem dX3_mixSchedule_273 : decode cX3_mixSchedule 273 = .ok (.getfield 19, 3) := by decide +kernel
theorem dX3_mixSchedule_276 : decode cX3_mixSchedule 276 = .ok (.bipush 6, 2) := by decide +kernel
theorem dX3_mixSchedule_278 : decode cX3_mixSchedule 278 = .ok (.dup2, 1) := by decide +kernel
theorem dX3_mixSchedule_279 : decode cX3_mixSchedule 279 = .ok (.iaload, 1) := by decide +kernel
theorem dX3_mixSchedule_280 : decode cX3_mixSchedule 280 = .ok (.iload 7, 2) := by decide +kernel
theorem dX3_mixSchedule_282 : decode cX3_mixSchedule 282 = .ok (.iadd, 1) := by decide +kernel
theorem dX3_mixSchedule_283 : decode cX3_mixSchedule 283 = .ok (.iastore, 1) := by decide +kernel
theorem dX3_mixSchedule_284 : decode cX3_mixSchedule 284 = .ok (.aload_n 0, 1) := by decide +kernel
theorem dX3_mixSchedule_285 : decode cX3_mixSchedule 285 = .ok (.getfield 19, 3) := by decide +kernel
theorem dX3_mixSchedule_288 : decode cX3_mixSchedule 288 = .ok (.bipush 7, 2) := by decide +kernel
theorem dX3_mixSchedule_290 : decode cX3_mixSchedule 290 = .ok (.dup2, 1) := by decide +kernel
theorem dX3_mixSchedule_291 : decode cX3_mixSchedule 291 = .ok (.iaload, 1) := by decide +kernel
theorem dX3_mixSchedule_292 : decode cX3_mixSchedule 292 = .ok (.iload 8, 2) := by decide +kernel
theorem dX3_mixSchedule_294 : decode cX3_mixSchedule 294 = .ok (.iadd, 1) := by decide +kernel
theorem dX3_mixSchedule_295 : decode cX3_mixSchedule 295 = .ok (.iastore, 1) := by decide +kernel
theorem dX3_mixSchedule_296 : decode cX3_mixSchedule 296 = .ok (.return_, 1) := by decide +kernel
theorem dX3_turn_0 : decode cX3_turn 0 = .ok (.iload_n 0, 1) := by decide +kernel
theorem dX3_turn_1 : decode cX3_turn 1 = .ok (.iload_n 1, 1) := by decide +kernel
theorem dX3_turn_2 : decode cX3_turn 2 = .ok (.iushr, 1) := by decide +kernel
theorem dX3_turn_3 : decode cX3_turn 3 = .ok (.iload_n 0, 1) := by decide +kernel
theorem dX3_turn_4 : decode cX3_turn 4 = .ok (.bipush 32, 2) := by decide +kernel
theorem dX3_turn_6 : decode cX3_turn 6 = .ok (.iload_n 1, 1) := by decide +kernel
theorem dX3_turn_7 : decode cX3_turn 7 = .ok (.isub, 1) := by decide +kernel
theorem dX3_turn_8 : decode cX3_turn 8 = .ok (.ishl, 1) := by decide +kernel
theorem dX3_turn_9 : decode cX3_turn 9 = .ok (.ior, 1) := by decide +kernel
theorem dX3_turn_10 : decode cX3_turn 10 = .ok (.ireturn, 1) := by decide +kernel
theorem dX4_init_0 : decode cX4_init 0 = .ok (.aload_n 0, 1) := by decide +kernel
theorem dX4_init_1 : decode cX4_init 1 = .ok (.invokespecial 1, 3) := by decide +kernel
theorem dX4_init_4 : decode cX4_init 4 = .ok (.aload_n 0, 1) := by decide +kernel
theorem dX4_init_5 : decode cX4_init 5 = .ok (.iconst 0, 1) := by decide +kernel
theorem dX4_init_6 : decode cX4_init 6 = .ok (.putfield 7, 3) := by decide +kernel
theorem dX4_init_9 : decode cX4_init 9 = .ok (.aload_n 0, 1) := by decide +kernel
theorem dX4_init_10 : decode cX4_init 10 = .ok (.iconst 0, 1) := by decide +kernel
theorem dX4_init_11 : decode cX4_init 11 = .ok (.putfield 13, 3) := by decide +kernel
theorem dX4_init_14 : decode cX4_init 14 = .ok (.aload_n 0, 1) := by decide +kernel
theorem dX4_init_15 : decode cX4_init 15 = .ok (.lconst 0, 1) := by decide +kernel
theorem dX4_init_16 : decode cX4_init 16 = .ok (.putfield 17, 3) := by decide +kernel
theorem dX4_init_19 : decode cX4_init 19 = .ok (.aload_n 0, 1) := by decide +kernel
theorem dX4_init_20 : decode cX4_init 20 = .ok (.lconst 0, 1) := by decide +kernel
theorem dX4_init_21 : decode cX4_init 21 = .ok (.putfield 21, 3) := by decide +kernel
theorem dX4_init_24 : decode cX4_init 24 = .ok (.aload_n 0, 1) := by decide +kernel
theorem dX4_init_25 : decode cX4_init 25 = .ok (.lconst 0, 1) := by decide +kernel
theorem dX4_init_26 : decode cX4_init 26 = .ok (.putfield 24, 3) := by decide +kernel
theorem dX4_init_29 : decode cX4_init 29 = .ok (.return_, 1) := by decide +kernel
theorem dX4_begin_0 : decode cX4_begin 0 = .ok (.aload_n 0, 1) := by decide +kernel
theorem dX4_begin_1 : decode cX4_begin 1 = .ok (.iconst 1, 1) := by decide +kernel
theorem dX4_begin_2 : decode cX4_begin 2 = .ok (.putfield 7, 3) := by decide +kernel
theorem dX4_begin_5 : decode cX4_begin 5 = .ok (.aload_n 0, 1) := by decide +kernel
theorem dX4_begin_6 : decode cX4_begin 6 = .ok (.iload_n 1, 1) := by decide +kernel
theorem dX4_begin_7 : decode cX4_begin 7 = .ok (.putfield 13, 3) := by decide +kernel
theorem dX4_begin_10 : decode cX4_begin 10 = .ok (.aload_n 0, 1) := by decide +kernel
theorem dX4_begin_11 : decode cX4_begin 11 = .ok (.lload_n 2, 1) := by decide +kernel
theorem dX4_begin_12 : decode cX4_begin 12 = .ok (.putfield 17, 3) := by decide +kernel
theorem dX4_begin_15 : decode cX4_begin 15 = .ok (.aload_n 0, 1) := by decide +kernel
theorem dX4_begin_16 : decode cX4_begin 16 = .ok (.lload 4, 2) := by decide +kernel
theorem dX4_begin_18 : decode cX4_begin 18 = .ok (.putfield 21, 3) := by decide +kernel
theorem dX4_begin_21 : decode cX4_begin 21 = .ok (.aload_n 0, 1) := by decide +kernel
theorem dX4_begin_22 : decode cX4_begin 22 = .ok (.lload 4, 2) := by decide +kernel
theorem dX4_begin_24 : decode cX4_begin 24 = .ok (.putfield 24, 3) := by decide +kernel
theorem dX4_begin_27 : decode cX4_begin 27 = .ok (.return_, 1) := by decide +kernel
theorem dX5_init_0 : decode cX5_init 0 = .ok (.aload_n 0, 1) := by decide +kernel
theorem dX5_init_1 : decode cX5_init 1 = .ok (.invokespecial 3, 3) := by decide +kernel
theorem dX5_init_4 : decode cX5_init 4 = .ok (.aload_n 0, 1) := by decide +kernel
theorem dX5_init_5 : decode cX5_init 5 = .ok (.bipush 40, 2) := by decide +kernel
theorem dX5_init_7 : decode cX5_init 7 = .ok (.newarray .int, 2) := by decide +kernel
theorem dX5_init_9 : decode cX5_init 9 = .ok (.putfield 9, 3) := by decide +kernel
theorem dX5_init_12 : decode cX5_init 12 = .ok (.aload_n 0, 1) := by decide +kernel
theorem dX5_init_13 : decode cX5_init 13 = .ok (.iconst 0, 1) := by decide +kernel
theorem dX5_init_14 : decode cX5_init 14 = .ok (.putfield 15, 3) := by decide +kernel
theorem dX5_init_17 : decode cX5_init 17 = .ok (.return_, 1) := by decide +kernel
theorem dX5_has_0 : decode cX5_has 0 = .ok (.iload_n 1, 1) := by decide +kernel
theorem dX5_has_1 : decode cX5_has 1 = .ok (.ifCond .lt 15, 3) := by decide +kernel
theorem dX5_has_4 : decode cX5_has 4 = .ok (.iload_n 1, 1) := by decide +kernel
theorem dX5_has_5 : decode cX5_has 5 = .ok (.aload_n 0, 1) := by decide +kernel
theorem dX5_has_6 : decode cX5_has 6 = .ok (.getfield 15, 3) := by decide +kernel
theorem dX5_has_9 : decode cX5_has 9 = .ok (.if_icmp .ge 7, 3) := by decide +kernel
theorem dX5_has_12 : decode cX5_has 12 = .ok (.iconst 1, 1) := by decide +kernel
theorem dX5_has_13 : decode cX5_has 13 = .ok (.goto 4, 3) := by decide +kernel
theorem dX5_has_16 : decode cX5_has 16 = .ok (.iconst 0, 1) := by decide +kernel
theorem dX5_has_17 : decode cX5_has 17 = .ok (.ireturn, 1) := by decide +kernel
theorem dX5_addSign_0 : decode cX5_addSign 0 = .ok (.aload_n 0, 1) := by decide +kernel
theorem dX5_addSign_1 : decode cX5_addSign 1 = .ok (.getfield 15, 3) := by decide +kernel
theorem dX5_addSign_4 : decode cX5_addSign 4 = .ok (.bipush 40, 2) := by decide +kernel
theorem dX5_addSign_6 : decode cX5_addSign 6 = .ok (.if_icmp .ge 23, 3) := by decide +kernel
theorem dX5_addSign_9 : decode cX5_addSign 9 = .ok (.aload_n 0, 1) := by decide +kernel
theorem dX5_addSign_10 : decode cX5_addSign 10 = .ok (.getfield 9, 3) := by decide +kernel
theorem dX5_addSign_13 : decode cX5_addSign 13 = .ok (.aload_n 0, 1) := by decide +kernel
theorem dX5_addSign_14 : decode cX5_addSign 14 = .ok (.getfield 15, 3) := by decide +kernel
theorem dX5_addSign_17 : decode cX5_addSign 17 = .ok (.iload_n 1, 1) := by decide +kernel
theorem dX5_addSign_18 : decode cX5_addSign 18 = .ok (.iastore, 1) := by decide +kernel
theorem dX5_addSign_19 : decode cX5_addSign 19 = .ok (.aload_n 0, 1) := by decide +kernel
theorem dX5_addSign_20 : decode cX5_addSign 20 = .ok (.dup, 1) := by decide +kernel
theorem dX5_addSign_21 : decode cX5_addSign 21 = .ok (.getfield 15, 3) := by decide +kernel
theorem dX5_addSign_24 : decode cX5_addSign 24 = .ok (.iconst 1, 1) := by decide +kernel
theorem dX5_addSign_25 : decode cX5_addSign 25 = .ok (.iadd, 1) := by decide +kernel
theorem dX5_addSign_26 : decode cX5_addSign 26 = .ok (.putfield 15, 3) := by decide +kernel
theorem dX5_addSign_29 : decode cX5_addSign 29 = .ok (.return_, 1) := by decide +kernel
theorem dX5_addSigns_0 : decode cX5_addSigns 0 = .ok (.iconst 0, 1) := by decide +kernel
theorem dX5_addSigns_1 : decode cX5_addSigns 1 = .ok (.istore_n 2, 1) := by decide +kernel
theorem dX5_addSigns_2 : decode cX5_addSigns 2 = .ok (.iload_n 2, 1) := by decide +kernel
theorem dX5_addSigns_3 : decode cX5_addSigns 3 = .ok (.iconst 4, 1) := by decide +kernel
theorem dX5_addSigns_4 : decode cX5_addSigns 4 = .ok (.if_icmp .ge 24, 3) := by decide +kernel
theorem dX5_addSigns_7 : decode cX5_addSigns 7 = .ok (.iload_n 1, 1) := by decide +kernel
theorem dX5_addSigns_8 : decode cX5_addSigns 8 = .ok (.iload_n 2, 1) := by decide +kernel
theorem dX5_addSigns_9 : decode cX5_addSigns 9 = .ok (.invokestatic 19, 3) := by decide +kernel
theorem dX5_addSigns_12 : decode cX5_addSigns 12 = .ok (.istore_n 3, 1) := by decide +kernel
theorem dX5_addSigns_13 : decode cX5_addSigns 13 = .ok (.iload_n 3, 1) := by decide +kernel
theorem dX5_addSigns_14 : decode cX5_addSigns 14 = .ok (.ifCond .eq 8, 3) := by decide +kernel
theorem dX5_addSigns_17 : decode cX5_addSigns 17 = .ok (.aload_n 0, 1) := by decide +kernel
theorem dX5_addSigns_18 : decode cX5_addSigns 18 = .ok (.iload_n 3, 1) := by decide +kernel
theorem dX5_addSigns_19 : decode cX5_addSigns 19 = .ok (.invokevirtual 23, 3) := by decide +kernel
theorem dX5_addSigns_22 : decode cX5_addSigns 22 = .ok (.iinc 2 1, 3) := by decide +kernel
theorem dX5_addSigns_25 : decode cX5_addSigns 25 = .ok (.goto (-23), 3) := by decide +kernel
theorem dX5_addSigns_28 : decode cX5_addSigns 28 = .ok (.return_, 1) := by decide +kernel
theorem dX5_isSameAs_0 : decode cX5_isSameAs 0 = .ok (.aload_n 0, 1) := by decide +kernel
theorem dX5_isSameAs_1 : decode cX5_isSameAs 1 = .ok (.getfield 15, 3) := by decide +kernel
theorem dX5_isSameAs_4 : decode cX5_isSameAs 4 = .ok (.aload_n 1, 1) := by decide +kernel
theorem dX5_isSameAs_5 : decode cX5_isSameAs 5 = .ok (.getfield 15, 3) := by decide +kernel
theorem dX5_isSameAs_8 : decode cX5_isSameAs 8 = .ok (.if_icmp .eq 5, 3) := by decide +kernel
theorem dX5_isSameAs_11 : decode cX5_isSameAs 11 = .ok (.iconst 0, 1) := by decide +kernel
theorem dX5_isSameAs_12 : decode cX5_isSameAs 12 = .ok (.ireturn, 1) := by decide +kernel
theorem dX5_isSameAs_13 : decode cX5_isSameAs 13 = .ok (.iconst 0, 1) := by decide +kernel
theorem dX5_isSameAs_14 : decode cX5_isSameAs 14 = .ok (.istore_n 2, 1) := by decide +kernel
theorem dX5_isSameAs_15 : decode cX5_isSameAs 15 = .ok (.iload_n 2, 1) := by decide +kernel
theorem dX5_isSameAs_16 : decode cX5_isSameAs 16 = .ok (.aload_n 0, 1) := by decide +kernel
theorem dX5_isSameAs_17 : decode cX5_isSameAs 17 = .ok (.getfield 15, 3) := by decide +kernel
theorem dX5_isSameAs_20 : decode cX5_isSameAs 20 = .ok (.if_icmp .ge 26, 3) := by decide +kernel
theorem dX5_isSameAs_23 : decode cX5_isSameAs 23 = .ok (.aload_n 0, 1) := by decide +kernel
theorem dX5_isSameAs_24 : decode cX5_isSameAs 24 = .ok (.getfield 9, 3) := by decide +kernel
theorem dX5_isSameAs_27 : decode cX5_isSameAs 27 = .ok (.iload_n 2, 1) := by decide +kernel
theorem dX5_isSameAs_28 : decode cX5_isSameAs 28 = .ok (.iaload, 1) := by decide +kernel
theorem dX5_isSameAs_29 : decode cX5_isSameAs 29 = .ok (.aload_n 1, 1) := by decide +kernel
theorem dX5_isSameAs_30 : decode cX5_isSameAs 30 = .ok (.getfield 9, 3) := by decide +kernel
theorem dX5_isSameAs_33 : decode cX5_isSameAs 33 = .ok (.iload_n 2, 1) := by decide +kernel
theorem dX5_isSameAs_34 : decode cX5_isSameAs 34 = .ok (.iaload, 1) := by decide +kernel
theorem dX5_isSameAs_35 : decode cX5_isSameAs 35 = .ok (.if_icmp .eq 5, 3) := by decide +kernel
theorem dX5_isSameAs_38 : decode cX5_isSameAs 38 = .ok (.iconst 0, 1) := by decide +kernel
theorem dX5_isSameAs_39 : decode cX5_isSameAs 39 = .ok (.ireturn, 1) := by decide +kernel
theorem dX5_isSameAs_40 : decode cX5_isSameAs 40 = .ok (.iinc 2 1, 3) := by decide +kernel
theorem dX5_isSameAs_43 : decode cX5_isSameAs 43 = .ok (.goto (-28), 3) := by decide +kernel
theorem dX5_isSameAs_46 : decode cX5_isSameAs 46 = .ok (.iconst 1, 1) := by decide +kernel
theorem dX5_isSameAs_47 : decode cX5_isSameAs 47 = .ok (.ireturn, 1) := by decide +kernel
theorem dX6_init_0 : decode cX6_init 0 = .ok (.aload_n 0, 1) := by decide +kernel
theorem dX6_init_1 : decode cX6_init 1 = .ok (.invokespecial 1, 3) := by decide +kernel
theorem dX6_init_4 : decode cX6_init 4 = .ok (.aload_n 0, 1) := by decide +kernel
theorem dX6_init_5 : decode cX6_init 5 = .ok (.iconst 0, 1) := by decide +kernel
theorem dX6_init_6 : decode cX6_init 6 = .ok (.putfield 7, 3) := by decide +kernel
theorem dX6_init_9 : decode cX6_init 9 = .ok (.aload_n 0, 1) := by decide +kernel
theorem dX6_init_10 : decode cX6_init 10 = .ok (.iconst 0, 1) := by decide +kernel
theorem dX6_init_11 : decode cX6_init 11 = .ok (.putfield 13, 3) := by decide +kernel
theorem dX6_init_14 : decode cX6_init 14 = .ok (.aload_n 0, 1) := by decide +kernel
theorem dX6_init_15 : decode cX6_init 15 = .ok (.iconst 0, 1) := by decide +kernel
theorem dX6_init_16 : decode cX6_init 16 = .ok (.putfield 17, 3) := by decide +kernel
theorem dX6_init_19 : decode cX6_init 19 = .ok (.return_, 1) := by decide +kernel
theorem dX6_tell_0 : decode cX6_tell 0 = .ok (.aload_n 0, 1) := by decide +kernel
theorem dX6_tell_1 : decode cX6_tell 1 = .ok (.iconst 1, 1) := by decide +kernel
theorem dX6_tell_2 : decode cX6_tell 2 = .ok (.putfield 7, 3) := by decide +kernel
theorem dX6_tell_5 : decode cX6_tell 5 = .ok (.aload_n 0, 1) := by decide +kernel
theorem dX6_tell_6 : decode cX6_tell 6 = .ok (.iload_n 1, 1) := by decide +kernel
theorem dX6_tell_7 : decode cX6_tell 7 = .ok (.putfield 13, 3) := by decide +kernel
theorem dX6_tell_10 : decode cX6_tell 10 = .ok (.aload_n 0, 1) := by decide +kernel
theorem dX6_tell_11 : decode cX6_tell 11 = .ok (.iload_n 2, 1) := by decide +kernel
theorem dX6_tell_12 : decode cX6_tell 12 = .ok (.putfield 17, 3) := by decide +kernel
theorem dX6_tell_15 : decode cX6_tell 15 = .ok (.return_, 1) := by decide +kernel
theorem dX6_knows_0 : decode cX6_knows 0 = .ok (.aload_n 0, 1) := by decide +kernel
theorem dX6_knows_1 : decode cX6_knows 1 = .ok (.getfield 7, 3) := by decide +kernel
theorem dX6_knows_4 : decode cX6_knows 4 = .ok (.ifCond .eq 23, 3) := by decide +kernel
theorem dX6_knows_7 : decode cX6_knows 7 = .ok (.aload_n 0, 1) := by decide +kernel
theorem dX6_knows_8 : decode cX6_knows 8 = .ok (.getfield 13, 3) := by decide +kernel
theorem dX6_knows_11 : decode cX6_knows 11 = .ok (.iload_n 1, 1) := by decide +kernel
theorem dX6_knows_12 : decode cX6_knows 12 = .ok (.if_icmp .ne 15, 3) := by decide +kernel
theorem dX6_knows_15 : decode cX6_knows 15 = .ok (.aload_n 0, 1) := by decide +kernel
theorem dX6_knows_16 : decode cX6_knows 16 = .ok (.getfield 17, 3) := by decide +kernel
theorem dX6_knows_19 : decode cX6_knows 19 = .ok (.iload_n 2, 1) := by decide +kernel
theorem dX6_knows_20 : decode cX6_knows 20 = .ok (.if_icmp .ne 7, 3) := by decide +kernel
theorem dX6_knows_23 : decode cX6_knows 23 = .ok (.iconst 1, 1) := by decide +kernel
theorem dX6_knows_24 : decode cX6_knows 24 = .ok (.goto 4, 3) := by decide +kernel
theorem dX6_knows_27 : decode cX6_knows 27 = .ok (.iconst 0, 1) := by decide +kernel
theorem dX6_knows_28 : decode cX6_knows 28 = .ok (.ireturn, 1) := by decide +kernel
theorem dJ11_isValidCodePoint_9a6ad_0 : decode cJ11_isValidCodePoint_9a6ad 0 = .ok (.iload_n 0, 1) := by decide +kernel
theorem dJ11_isValidCodePoint_9a6ad_1 : decode cJ11_isValidCodePoint_9a6ad 1 = .ok (.bipush 16, 2) := by decide +kernel
theorem dJ11_isValidCodePoint_9a6ad_3 : decode cJ11_isValidCodePoint_9a6ad 3 = .ok (.iushr, 1) := by decide +kernel
theorem dJ11_isValidCodePoint_9a6ad_4 : decode cJ11_isValidCodePoint_9a6ad 4 = .ok (.istore_n 1, 1) := by decide +kernel
theorem dJ11_isValidCodePoint_9a6ad_5 : decode cJ11_isValidCodePoint_9a6ad 5 = .ok (.iload_n 1, 1) := by decide +kernel
theorem dJ11_isValidCodePoint_9a6ad_6 : decode cJ11_isValidCodePoint_9a6ad 6 = .ok (.bipush 17, 2) := by decide +kernel
theorem dJ11_isValidCodePoint_9a6ad_8 : decode cJ11_isValidCodePoint_9a6ad 8 = .ok (.if_icmp .ge 7, 3) := by decide +kernel
theorem dJ11_isValidCodePoint_9a6ad_11 : decode cJ11_isValidCodePoint_9a6ad 11 = .ok (.iconst 1, 1) := by decide +kernel
theorem dJ11_isValidCodePoint_9a6ad_12 : decode cJ11_isValidCodePoint_9a6ad 12 = .ok (.goto 4, 3) := by decide +kernel
theorem dJ11_isValidCodePoint_9a6ad_15 : decode cJ11_isValidCodePoint_9a6ad 15 = .ok (.iconst 0, 1) := by decide +kernel
theorem dJ11_isValidCodePoint_9a6ad_16 : decode cJ11_isValidCodePoint_9a6ad 16 = .ok (.ireturn, 1) := by decide +kernel
theorem dJ11_highSurrogate_5068e_0 : decode cJ11_highSurrogate_5068e 0 = .ok (.iload_n 0, 1) := by decide +kernel
theorem dJ11_highSurrogate_5068e_1 : decode cJ11_highSurrogate_5068e 1 = .ok (.bipush 10, 2) := by decide +kernel
theorem dJ11_highSurrogate_5068e_3 : decode cJ11_highSurrogate_5068e 3 = .ok (.iushr, 1) := by decide +kernel
theorem dJ11_highSurrogate_5068e_4 : decode cJ11_highSurrogate_5068e 4 = .ok (.ldc 110, 2) := by decide +kernel
theorem dJ11_highSurrogate_5068e_6 : decode cJ11_highSurrogate_5068e 6 = .ok (.iadd, 1) := by decide +kernel
theorem dJ11_highSurrogate_5068e_7 : decode cJ11_highSurrogate_5068e 7 = .ok (.i2c, 1) := by decide +kernel
theorem dJ11_highSurrogate_5068e_8 : decode cJ11_highSurrogate_5068e 8 = .ok (.ireturn, 1) := by decide +kernel
theorem dJ11_lowSurrogate_5068e_0 : decode cJ11_lowSurrogate_5068e 0 = .ok (.iload_n 0, 1) := by decide +kernel
theorem dJ11_lowSurrogate_5068e_1 : decode cJ11_lowSurrogate_5068e 1 = .ok (.sipush 1023, 3) := by decide +kernel
theorem dJ11_lowSurrogate_5068e_4 : decode cJ11_lowSurrogate_5068e 4 = .ok (.iand, 1) := by decide +kernel
theorem dJ11_lowSurrogate_5068e_5 : decode cJ11_lowSurrogate_5068e 5 = .ok (.ldc 76, 2) := by decide +kernel
theorem dJ11_lowSurrogate_5068e_7 : decode cJ11_lowSurrogate_5068e 7 = .ok (.iadd, 1) := by decide +kernel
theorem dJ11_lowSurrogate_5068e_8 : decode cJ11_lowSurrogate_5068e 8 = .ok (.i2c, 1) := by decide +kernel
theorem dJ11_lowSurrogate_5068e_9 : decode cJ11_lowSurrogate_5068e 9 = .ok (.ireturn, 1) := by decide +kernel
theorem dJ9_max_7cf53_0 : decode cJ9_max_7cf53 0 = .ok (.iload_n 0, 1) := by decide +kernel
theorem dJ9_max_7cf53_1 : decode cJ9_max_7cf53 1 = .ok (.iload_n 1, 1) := by decide +kernel
theorem dJ9_max_7cf53_2 : decode cJ9_max_7cf53 2 = .ok (.if_icmp .lt 7, 3) := by decide +kernel
theorem dJ9_max_7cf53_5 : decode cJ9_max_7cf53 5 = .ok (.iload_n 0, 1) := by decide +kernel
theorem dJ9_max_7cf53_6 : decode cJ9_max_7cf53 6 = .ok (.goto 4, 3) := by decide +kernel
theorem dJ9_max_7cf53_9 : decode cJ9_max_7cf53 9 = .ok (.iload_n 1, 1) := by decide +kernel
theorem dJ9_max_7cf53_10 : decode cJ9_max_7cf53 10 = .ok (.ireturn, 1) := by decide +kernel
theorem dJ9_min_7cf53_0 : decode cJ9_min_7cf53 0 = .ok (.iload_n 0, 1) := by decide +kernel
theorem dJ9_min_7cf53_1 : decode cJ9_min_7cf53 1 = .ok (.iload_n 1, 1) := by decide +kernel
theorem dJ9_min_7cf53_2 : decode cJ9_min_7cf53 2 = .ok (.if_icmp .gt 7, 3) := by decide +kernel
theorem dJ9_min_7cf53_5 : decode cJ9_min_7cf53 5 = .ok (.iload_n 0, 1) := by decide +kernel
theorem dJ9_min_7cf53_6 : decode cJ9_min_7cf53 6 = .ok (.goto 4, 3) := by decide +kernel
theorem dJ9_min_7cf53_9 : decode cJ9_min_7cf53 9 = .ok (.iload_n 1, 1) := by decide +kernel
theorem dJ9_min_7cf53_10 : decode cJ9_min_7cf53 10 = .ok (.ireturn, 1) := by decide +kernel
theorem dJ0_length_8abf5_0 : decode cJ0_length_8abf5 0 = .ok (.aload_n 0, 1) := by decide +kernel
theorem dJ0_length_8abf5_1 : decode cJ0_length_8abf5 1 = .ok (.getfield 9, 3) := by decide +kernel
theorem dJ0_length_8abf5_4 : decode cJ0_length_8abf5 4 = .ok (.arraylength, 1) := by decide +kernel
theorem dJ0_length_8abf5_5 : decode cJ0_length_8abf5 5 = .ok (.aload_n 0, 1) := by decide +kernel
theorem dJ0_length_8abf5_6 : decode cJ0_length_8abf5 6 = .ok (.invokevirtual 335, 3) := by decide +kernel
theorem dJ0_length_8abf5_9 : decode cJ0_length_8abf5 9 = .ok (.ishr, 1) := by decide +kernel
theorem dJ0_length_8abf5_10 : decode cJ0_length_8abf5 10 = .ok (.ireturn, 1) := by decide +kernel
theorem dJ0_charAt_5068e_0 : decode cJ0_charAt_5068e 0 = .ok (.aload_n 0, 1) := by decide +kernel
theorem dJ0_charAt_5068e_1 : decode cJ0_charAt_5068e 1 = .ok (.invokevirtual 492, 3) := by decide +kernel
theorem dJ0_charAt_5068e_4 : decode cJ0_charAt_5068e 4 = .ok (.ifCond .eq 12, 3) := by decide +kernel
theorem dJ0_charAt_5068e_7 : decode cJ0_charAt_5068e 7 = .ok (.aload_n 0, 1) := by decide +kernel
theorem dJ0_charAt_5068e_8 : decode cJ0_charAt_5068e 8 = .ok (.getfield 9, 3) := by decide +kernel
theorem dJ0_charAt_5068e_11 : decode cJ0_charAt_5068e 11 = .ok (.iload_n 1, 1) := by decide +kernel
theorem dJ0_charAt_5068e_12 : decode cJ0_charAt_5068e 12 = .ok (.invokestatic 495, 3) := by decide +kernel
theorem dJ0_charAt_5068e_15 : decode cJ0_charAt_5068e 15 = .ok (.ireturn, 1) := by decide +kernel
theorem dJ0_charAt_5068e_16 : decode cJ0_charAt_5068e 16 = .ok (.aload_n 0, 1) := by decide +kernel
theorem dJ0_charAt_5068e_17 : decode cJ0_charAt_5068e 17 = .ok (.getfield 9, 3) := by decide +kernel
theorem dJ0_charAt_5068e_20 : decode cJ0_charAt_5068e 20 = .ok (.iload_n 1, 1) := by decide +kernel
theorem dJ0_charAt_5068e_21 : decode cJ0_charAt_5068e 21 = .ok (.invokestatic 498, 3) := by decide +kernel
theorem dJ0_charAt_5068e_24 : decode cJ0_charAt_5068e 24 = .ok (.ireturn, 1) := by decide +kernel
theorem dJ0_indexOf_0f7a4_0 : decode cJ0_indexOf_0f7a4 0 = .ok (.aload_n 0, 1) := by decide +kernel
theorem dJ0_indexOf_0f7a4_1 : decode cJ0_indexOf_0f7a4 1 = .ok (.iload_n 1, 1) := by decide +kernel
theorem dJ0_indexOf_0f7a4_2 : decode cJ0_indexOf_0f7a4 2 = .ok (.iconst 0, 1) := by decide +kernel
theorem dJ0_indexOf_0f7a4_3 : decode cJ0_indexOf_0f7a4 3 = .ok (.invokevirtual 633, 3) := by decide +kernel
theorem dJ0_indexOf_0f7a4_6 : decode cJ0_indexOf_0f7a4 6 = .ok (.ireturn, 1) := by decide +kernel
theorem dJ0_indexOf_7cf53_0 : decode cJ0_indexOf_7cf53 0 = .ok (.aload_n 0, 1) := by decide +kernel
theorem dJ0_indexOf_7cf53_1 : decode cJ0_indexOf_7cf53 1 = .ok (.invokevirtual 492, 3) := by decide +kernel
theorem dJ0_indexOf_7cf53_4 : decode cJ0_indexOf_7cf53 4 = .ok (.ifCond .eq 19, 3) := by decide +kernel
theorem dJ0_indexOf_7cf53_7 : decode cJ0_indexOf_7cf53 7 = .ok (.aload_n 0, 1) := by decide +kernel
theorem dJ0_indexOf_7cf53_8 : decode cJ0_indexOf_7cf53 8 = .ok (.getfield 9, 3) := by decide +kernel
theorem dJ0_indexOf_7cf53_11 : decode cJ0_indexOf_7cf53 11 = .ok (.iload_n 1, 1) := by decide +kernel
theorem dJ0_indexOf_7cf53_12 : decode cJ0_indexOf_7cf53 12 = .ok (.iload_n 2, 1) := by decide +kernel
theorem dJ0_indexOf_7cf53_13 : decode cJ0_indexOf_7cf53 13 = .ok (.aload_n 0, 1) := by decide +kernel
theorem dJ0_indexOf_7cf53_14 : decode cJ0_indexOf_7cf53 14 = .ok (.invokevirtual 505, 3) := by decide +kernel
theorem dJ0_indexOf_7cf53_17 : decode cJ0_indexOf_7cf53 17 = .ok (.invokestatic 637, 3) := by decide +kernel
theorem dJ0_indexOf_7cf53_20 : decode cJ0_indexOf_7cf53 20 = .ok (.goto 16, 3) := by decide +kernel
theorem dJ0_indexOf_7cf53_23 : decode cJ0_indexOf_7cf53 23 = .ok (.aload_n 0, 1) := by decide +kernel
theorem dJ0_indexOf_7cf53_24 : decode cJ0_indexOf_7cf53 24 = .ok (.getfield 9, 3) := by decide +kernel
theorem dJ0_indexOf_7cf53_27 : decode cJ0_indexOf_7cf53 27 = .ok (.iload_n 1, 1) := by decide +kernel
theorem dJ0_indexOf_7cf53_28 : decode cJ0_indexOf_7cf53 28 = .ok (.iload_n 2, 1) := by decide +kernel
theorem dJ0_indexOf_7cf53_29 : decode cJ0_indexOf_7cf53 29 = .ok (.aload_n 0, 1) := by decide +kernel
theorem dJ0_indexOf_7cf53_30 : decode cJ0_indexOf_7cf53 30 = .ok (.invokevirtual 505, 3) := by decide +kernel
theorem dJ0_indexOf_7cf53_33 : decode cJ0_indexOf_7cf53 33 = .ok (.invokestatic 640, 3) := by decide +kernel
theorem dJ0_indexOf_7cf53_36 : decode cJ0_indexOf_7cf53 36 = .ok (.ireturn, 1) := by decide +kernel
theorem dJ0_coder_7d493_0 : decode cJ0_coder_7d493 0 = .ok (.getstatic 38, 3) := by decide +kernel
theorem dJ0_coder_7d493_3 : decode cJ0_coder_7d493 3 = .ok (.ifCond .eq 10, 3) := by decide +kernel
theorem dJ0_coder_7d493_6 : decode cJ0_coder_7d493 6 = .ok (.aload_n 0, 1) := by decide +kernel
theorem dJ0_coder_7d493_7 : decode cJ0_coder_7d493 7 = .ok (.getfield 15, 3) := by decide +kernel
theorem dJ0_coder_7d493_10 : decode cJ0_coder_7d493 10 = .ok (.goto 4, 3) := by decide +kernel
theorem dJ0_coder_7d493_13 : decode cJ0_coder_7d493 13 = .ok (.iconst 1, 1) := by decide +kernel
theorem dJ0_coder_7d493_14 : decode cJ0_coder_7d493 14 = .ok (.ireturn, 1) := by decide +kernel
theorem dJ0_isLatin1_aae02_0 : decode cJ0_isLatin1_aae02 0 = .ok (.getstatic 38, 3) := by decide +kernel
theorem dJ0_isLatin1_aae02_3 : decode cJ0_isLatin1_aae02 3 = .ok (.ifCond .eq 14, 3) := by decide +kernel
theorem dJ0_isLatin1_aae02_6 : decode cJ0_isLatin1_aae02 6 = .ok (.aload_n 0, 1) := by decide +kernel
theorem dJ0_isLatin1_aae02_7 : decode cJ0_isLatin1_aae02 7 = .ok (.getfield 15, 3) := by decide +kernel
theorem dJ0_isLatin1_aae02_10 : decode cJ0_isLatin1_aae02 10 = .ok (.ifCond .ne 7, 3) := by decide +kernel
theorem dJ0_isLatin1_aae02_13 : decode cJ0_isLatin1_aae02 13 = .ok (.iconst 1, 1) := by decide +kernel
theorem dJ0_isLatin1_aae02_14 : decode cJ0_isLatin1_aae02 14 = .ok (.goto 4, 3) := by decide +kernel
theorem dJ0_isLatin1_aae02_17 : decode cJ0_isLatin1_aae02 17 = .ok (.iconst 0, 1) := by decide +kernel
theorem dJ0_isLatin1_aae02_18 : decode cJ0_isLatin1_aae02 18 = .ok (.ireturn, 1) := by decide +kernel
theorem dJ0_checkIndex_df160_0 : decode cJ0_checkIndex_df160 0 = .ok (.iload_n 0, 1) := by decide +kernel
theorem dJ0_checkIndex_df160_1 : decode cJ0_checkIndex_df160 1 = .ok (.iload_n 1, 1) := by decide +kernel
theorem dJ0_checkIndex_df160_2 : decode cJ0_checkIndex_df160 2 = .ok (.getstatic 1053, 3) := by decide +kernel
theorem dJ0_checkIndex_df160_5 : decode cJ0_checkIndex_df160 5 = .ok (.invokestatic 1059, 3) := by decide +kernel
theorem dJ0_checkIndex_df160_8 : decode cJ0_checkIndex_df160 8 = .ok (.pop, 1) := by decide +kernel
theorem dJ0_checkIndex_df160_9 : decode cJ0_checkIndex_df160 9 = .ok (.return_, 1) := by decide +kernel
theorem dJ0_checkBoundsBeginEnd_23922_0 : decode cJ0_checkBoundsBeginEnd_23922 0 = .ok (.iload_n 0, 1) := by decide +kernel
theorem dJ0_checkBoundsBeginEnd_23922_1 : decode cJ0_checkBoundsBeginEnd_23922 1 = .ok (.iload_n 1, 1) := by decide +kernel
theorem dJ0_checkBoundsBeginEnd_23922_2 : decode cJ0_checkBoundsBeginEnd_23922 2 = .ok (.iload_n 2, 1) := by decide +kernel
theorem dJ0_checkBoundsBeginEnd_23922_3 : decode cJ0_checkBoundsBeginEnd_23922 3 = .ok (.getstatic 1053, 3) := by decide +kernel
theorem dJ0_checkBoundsBeginEnd_23922_6 : decode cJ0_checkBoundsBeginEnd_23922 6 = .ok (.invokestatic 1062, 3) := by decide +kernel
theorem dJ0_checkBoundsBeginEnd_23922_9 : decode cJ0_checkBoundsBeginEnd_23922 9 = .ok (.pop, 1) := by decide +kernel
theorem dJ0_checkBoundsBeginEnd_23922_10 : decode cJ0_checkBoundsBeginEnd_23922 10 = .ok (.return_, 1) := by decide +kernel
theorem dJ1_charAt_3b067_0 : decode cJ1_charAt_3b067 0 = .ok (.iload_n 1, 1) := by decide +kernel
theorem dJ1_charAt_3b067_1 : decode cJ1_charAt_3b067 1 = .ok (.aload_n 0, 1) := by decide +kernel
theorem dJ1_charAt_3b067_2 : decode cJ1_charAt_3b067 2 = .ok (.arraylength, 1) := by decide +kernel
theorem dJ1_charAt_3b067_3 : decode cJ1_charAt_3b067 3 = .ok (.invokestatic 9, 3) := by decide +kernel
theorem dJ1_charAt_3b067_6 : decode cJ1_charAt_3b067 6 = .ok (.aload_n 0, 1) := by decide +kernel
theorem dJ1_charAt_3b067_7 : decode cJ1_charAt_3b067 7 = .ok (.iload_n 1, 1) := by decide +kernel
theorem dJ1_charAt_3b067_8 : decode cJ1_charAt_3b067 8 = .ok (.baload, 1) := by decide +kernel
theorem dJ1_charAt_3b067_9 : decode cJ1_charAt_3b067 9 = .ok (.sipush 255, 3) := by decide +kernel
theorem dJ1_charAt_3b067_12 : decode cJ1_charAt_3b067 12 = .ok (.iand, 1) := by decide +kernel
theorem dJ1_charAt_3b067_13 : decode cJ1_charAt_3b067 13 = .ok (.i2c, 1) := by decide +kernel
theorem dJ1_charAt_3b067_14 : decode cJ1_charAt_3b067 14 = .ok (.ireturn, 1) := by decide +kernel
theorem dJ1_canEncode_9a6ad_0 : decode cJ1_canEncode_9a6ad 0 = .ok (.iload_n 0, 1) := by decide +kernel
theorem dJ1_canEncode_9a6ad_1 : decode cJ1_canEncode_9a6ad 1 = .ok (.ifCond .lt 14, 3) := by decide +kernel
theorem dJ1_canEncode_9a6ad_4 : decode cJ1_canEncode_9a6ad 4 = .ok (.iload_n 0, 1) := by decide +kernel
theorem dJ1_canEncode_9a6ad_5 : decode cJ1_canEncode_9a6ad 5 = .ok (.sipush 255, 3) := by decide +kernel
theorem dJ1_canEncode_9a6ad_8 : decode cJ1_canEncode_9a6ad 8 = .ok (.if_icmp .gt 7, 3) := by decide +kernel
theorem dJ1_canEncode_9a6ad_11 : decode cJ1_canEncode_9a6ad 11 = .ok (.iconst 1, 1) := by decide +kernel
theorem dJ1_canEncode_9a6ad_12 : decode cJ1_canEncode_9a6ad 12 = .ok (.goto 4, 3) := by decide +kernel
theorem dJ1_canEncode_9a6ad_15 : decode cJ1_canEncode_9a6ad 15 = .ok (.iconst 0, 1) := by decide +kernel
theorem dJ1_canEncode_9a6ad_16 : decode cJ1_canEncode_9a6ad 16 = .ok (.ireturn, 1) := by decide +kernel
theorem dJ1_indexOf_4cfef_0 : decode cJ1_indexOf_4cfef 0 = .ok (.iload_n 1, 1) := by decide +kernel
theorem dJ1_indexOf_4cfef_1 : decode cJ1_indexOf_4cfef 1 = .ok (.invokestatic 88, 3) := by decide +kernel
theorem dJ1_indexOf_4cfef_4 : decode cJ1_indexOf_4cfef 4 = .ok (.ifCond .ne 5, 3) := by decide +kernel
theorem dJ1_indexOf_4cfef_7 : decode cJ1_indexOf_4cfef 7 = .ok (.iconst (-1), 1) := by decide +kernel
theorem dJ1_indexOf_4cfef_8 : decode cJ1_indexOf_4cfef 8 = .ok (.ireturn, 1) := by decide +kernel
theorem dJ1_indexOf_4cfef_9 : decode cJ1_indexOf_4cfef 9 = .ok (.iload_n 2, 1) := by decide +kernel
theorem dJ1_indexOf_4cfef_10 : decode cJ1_indexOf_4cfef 10 = .ok (.iconst 0, 1) := by decide +kernel
theorem dJ1_indexOf_4cfef_11 : decode cJ1_indexOf_4cfef 11 = .ok (.invokestatic 92, 3) := by decide +kernel
theorem dJ1_indexOf_4cfef_14 : decode cJ1_indexOf_4cfef 14 = .ok (.istore_n 2, 1) := by decide +kernel
theorem dJ1_indexOf_4cfef_15 : decode cJ1_indexOf_4cfef 15 = .ok (.iload_n 3, 1) := by decide +kernel
theorem dJ1_indexOf_4cfef_16 : decode cJ1_indexOf_4cfef 16 = .ok (.aload_n 0, 1) := by decide +kernel
theorem dJ1_indexOf_4cfef_17 : decode cJ1_indexOf_4cfef 17 = .ok (.arraylength, 1) := by decide +kernel
theorem dJ1_indexOf_4cfef_18 : decode cJ1_indexOf_4cfef 18 = .ok (.invokestatic 38, 3) := by decide +kernel
theorem dJ1_indexOf_4cfef_21 : decode cJ1_indexOf_4cfef 21 = .ok (.istore_n 3, 1) := by decide +kernel
theorem dJ1_indexOf_4cfef_22 : decode cJ1_indexOf_4cfef 22 = .ok (.iload_n 2, 1) := by decide +kernel
theorem dJ1_indexOf_4cfef_23 : decode cJ1_indexOf_4cfef 23 = .ok (.iload_n 3, 1) := by decide +kernel
theorem dJ1_indexOf_4cfef_24 : decode cJ1_indexOf_4cfef 24 = .ok (.if_icmp .lt 5, 3) := by decide +kernel
theorem dJ1_indexOf_4cfef_27 : decode cJ1_indexOf_4cfef 27 = .ok (.iconst (-1), 1) := by decide +kernel
theorem dJ1_indexOf_4cfef_28 : decode cJ1_indexOf_4cfef 28 = .ok (.ireturn, 1) := by decide +kernel
theorem dJ1_indexOf_4cfef_29 : decode cJ1_indexOf_4cfef 29 = .ok (.aload_n 0, 1) := by decide +kernel
theorem dJ1_indexOf_4cfef_30 : decode cJ1_indexOf_4cfef 30 = .ok (.iload_n 1, 1) := by decide +kernel
theorem dJ1_indexOf_4cfef_31 : decode cJ1_indexOf_4cfef 31 = .ok (.iload_n 2, 1) := by decide +kernel
theorem dJ1_indexOf_4cfef_32 : decode cJ1_indexOf_4cfef 32 = .ok (.iload_n 3, 1) := by decide +kernel
theorem dJ1_indexOf_4cfef_33 : decode cJ1_indexOf_4cfef 33 = .ok (.invokestatic 95, 3) := by decide +kernel
theorem dJ1_indexOf_4cfef_36 : decode cJ1_indexOf_4cfef 36 = .ok (.ireturn, 1) := by decide +kernel
theorem dJ1_indexOfChar_4cfef_0 : decode cJ1_indexOfChar_4cfef 0 = .ok (.iload_n 1, 1) := by decide +kernel
theorem dJ1_indexOfChar_4cfef_1 : decode cJ1_indexOfChar_4cfef 1 = .ok (.i2b, 1) := by decide +kernel
theorem dJ1_indexOfChar_4cfef_2 : decode cJ1_indexOfChar_4cfef 2 = .ok (.istore 4, 2) := by decide +kernel
theorem dJ1_indexOfChar_4cfef_4 : decode cJ1_indexOfChar_4cfef 4 = .ok (.iload_n 2, 1) := by decide +kernel
theorem dJ1_indexOfChar_4cfef_5 : decode cJ1_indexOfChar_4cfef 5 = .ok (.istore 5, 2) := by decide +kernel
theorem dJ1_indexOfChar_4cfef_7 : decode cJ1_indexOfChar_4cfef 7 = .ok (.iload 5, 2) := by decide +kernel
theorem dJ1_indexOfChar_4cfef_9 : decode cJ1_indexOfChar_4cfef 9 = .ok (.iload_n 3, 1) := by decide +kernel
theorem dJ1_indexOfChar_4cfef_10 : decode cJ1_indexOfChar_4cfef 10 = .ok (.if_icmp .ge 21, 3) := by decide +kernel
theorem dJ1_indexOfChar_4cfef_13 : decode cJ1_indexOfChar_4cfef 13 = .ok (.aload_n 0, 1) := by decide +kernel
theorem dJ1_indexOfChar_4cfef_14 : decode cJ1_indexOfChar_4cfef 14 = .ok (.iload 5, 2) := by decide +kernel
theorem dJ1_indexOfChar_4cfef_16 : decode cJ1_indexOfChar_4cfef 16 = .ok (.baload, 1) := by decide +kernel
theorem dJ1_indexOfChar_4cfef_17 : decode cJ1_indexOfChar_4cfef 17 = .ok (.iload 4, 2) := by decide +kernel
theorem dJ1_indexOfChar_4cfef_19 : decode cJ1_indexOfChar_4cfef 19 = .ok (.if_icmp .ne 6, 3) := by decide +kernel
theorem dJ1_indexOfChar_4cfef_22 : decode cJ1_indexOfChar_4cfef 22 = .ok (.iload 5, 2) := by decide +kernel
theorem dJ1_indexOfChar_4cfef_24 : decode cJ1_indexOfChar_4cfef 24 = .ok (.ireturn, 1) := by decide +kernel
theorem dJ1_indexOfChar_4cfef_25 : decode cJ1_indexOfChar_4cfef 25 = .ok (.iinc 5 1, 3) := by decide +kernel
theorem dJ1_indexOfChar_4cfef_28 : decode cJ1_indexOfChar_4cfef 28 = .ok (.goto (-21), 3) := by decide +kernel
theorem dJ1_indexOfChar_4cfef_31 : decode cJ1_indexOfChar_4cfef 31 = .ok (.iconst (-1), 1) := by decide +kernel
theorem dJ1_indexOfChar_4cfef_32 : decode cJ1_indexOfChar_4cfef 32 = .ok (.ireturn, 1) := by decide +kernel
theorem dJ2_getChar_3b067_0 : decode cJ2_getChar_3b067 0 = .ok (.getstatic 44, 3) := by decide +kernel
theorem dJ2_getChar_3b067_3 : decode cJ2_getChar_3b067 3 = .ok (.ifCond .ne 25, 3) := by decide +kernel
theorem dJ2_getChar_3b067_6 : decode cJ2_getChar_3b067 6 = .ok (.iload_n 1, 1) := by decide +kernel
theorem dJ2_getChar_3b067_7 : decode cJ2_getChar_3b067 7 = .ok (.ifCond .lt 11, 3) := by decide +kernel
theorem dJ2_getChar_3b067_10 : decode cJ2_getChar_3b067 10 = .ok (.iload_n 1, 1) := by decide +kernel
theorem dJ2_getChar_3b067_11 : decode cJ2_getChar_3b067 11 = .ok (.aload_n 0, 1) := by decide +kernel
theorem dJ2_getChar_3b067_12 : decode cJ2_getChar_3b067 12 = .ok (.invokestatic 48, 3) := by decide +kernel
theorem dJ2_getChar_3b067_15 : decode cJ2_getChar_3b067 15 = .ok (.if_icmp .lt 13, 3) := by decide +kernel
theorem dJ2_getChar_3b067_18 : decode cJ2_getChar_3b067 18 = .ok (.new 52, 3) := by decide +kernel
theorem dJ2_getChar_3b067_21 : decode cJ2_getChar_3b067 21 = .ok (.dup, 1) := by decide +kernel
theorem dJ2_getChar_3b067_22 : decode cJ2_getChar_3b067 22 = .ok (.ldc 54, 2) := by decide +kernel
theorem dJ2_getChar_3b067_24 : decode cJ2_getChar_3b067 24 = .ok (.invokespecial 56, 3) := by decide +kernel
theorem dJ2_getChar_3b067_27 : decode cJ2_getChar_3b067 27 = .ok (.athrow, 1) := by decide +kernel
theorem dJ2_getChar_3b067_28 : decode cJ2_getChar_3b067 28 = .ok (.iload_n 1, 1) := by decide +kernel
theorem dJ2_getChar_3b067_29 : decode cJ2_getChar_3b067 29 = .ok (.iconst 1, 1) := by decide +kernel
theorem dJ2_getChar_3b067_30 : decode cJ2_getChar_3b067 30 = .ok (.ishl, 1) := by decide +kernel
theorem dJ2_getChar_3b067_31 : decode cJ2_getChar_3b067 31 = .ok (.istore_n 1, 1) := by decide +kernel
theorem dJ2_getChar_3b067_32 : decode cJ2_getChar_3b067 32 = .ok (.aload_n 0, 1) := by decide +kernel
theorem dJ2_getChar_3b067_33 : decode cJ2_getChar_3b067 33 = .ok (.iload_n 1, 1) := by decide +kernel
theorem dJ2_getChar_3b067_34 : decode cJ2_getChar_3b067 34 = .ok (.iinc 1 1, 3) := by decide +kernel
theorem dJ2_getChar_3b067_37 : decode cJ2_getChar_3b067 37 = .ok (.baload, 1) := by decide +kernel
theorem dJ2_getChar_3b067_38 : decode cJ2_getChar_3b067 38 = .ok (.sipush 255, 3) := by decide +kernel
theorem dJ2_getChar_3b067_41 : decode cJ2_getChar_3b067 41 = .ok (.iand, 1) := by decide +kernel
theorem dJ2_getChar_3b067_42 : decode cJ2_getChar_3b067 42 = .ok (.getstatic 59, 3) := by decide +kernel
theorem dJ2_getChar_3b067_45 : decode cJ2_getChar_3b067 45 = .ok (.ishl, 1) := by decide +kernel
theorem dJ2_getChar_3b067_46 : decode cJ2_getChar_3b067 46 = .ok (.aload_n 0, 1) := by decide +kernel
theorem dJ2_getChar_3b067_47 : decode cJ2_getChar_3b067 47 = .ok (.iload_n 1, 1) := by decide +kernel
theorem dJ2_getChar_3b067_48 : decode cJ2_getChar_3b067 48 = .ok (.baload, 1) := by decide +kernel
theorem dJ2_getChar_3b067_49 : decode cJ2_getChar_3b067 49 = .ok (.sipush 255, 3) := by decide +kernel
theorem dJ2_getChar_3b067_52 : decode cJ2_getChar_3b067 52 = .ok (.iand, 1) := by decide +kernel
theorem dJ2_getChar_3b067_53 : decode cJ2_getChar_3b067 53 = .ok (.getstatic 63, 3) := by decide +kernel
theorem dJ2_getChar_3b067_56 : decode cJ2_getChar_3b067 56 = .ok (.ishl, 1) := by decide +kernel
theorem dJ2_getChar_3b067_57 : decode cJ2_getChar_3b067 57 = .ok (.ior, 1) := by decide +kernel
theorem dJ2_getChar_3b067_58 : decode cJ2_getChar_3b067 58 = .ok (.i2c, 1) := by decide +kernel
theorem dJ2_getChar_3b067_59 : decode cJ2_getChar_3b067 59 = .ok (.ireturn, 1) := by decide +kernel
theorem dJ2_length_9d52b_0 : decode cJ2_length_9d52b 0 = .ok (.aload_n 0, 1) := by decide +kernel
theorem dJ2_length_9d52b_1 : decode cJ2_length_9d52b 1 = .ok (.arraylength, 1) := by decide +kernel
theorem dJ2_length_9d52b_2 : decode cJ2_length_9d52b 2 = .ok (.iconst 1, 1) := by decide +kernel
theorem dJ2_length_9d52b_3 : decode cJ2_length_9d52b 3 = .ok (.ishr, 1) := by decide +kernel
theorem dJ2_length_9d52b_4 : decode cJ2_length_9d52b 4 = .ok (.ireturn, 1) := by decide +kernel
theorem dJ2_indexOf_4cfef_0 : decode cJ2_indexOf_4cfef 0 = .ok (.iload_n 2, 1) := by decide +kernel
theorem dJ2_indexOf_4cfef_1 : decode cJ2_indexOf_4cfef 1 = .ok (.iconst 0, 1) := by decide +kernel
theorem dJ2_indexOf_4cfef_2 : decode cJ2_indexOf_4cfef 2 = .ok (.invokestatic 224, 3) := by decide +kernel
theorem dJ2_indexOf_4cfef_5 : decode cJ2_indexOf_4cfef 5 = .ok (.istore_n 2, 1) := by decide +kernel
theorem dJ2_indexOf_4cfef_6 : decode cJ2_indexOf_4cfef 6 = .ok (.iload_n 3, 1) := by decide +kernel
theorem dJ2_indexOf_4cfef_7 : decode cJ2_indexOf_4cfef 7 = .ok (.aload_n 0, 1) := by decide +kernel
theorem dJ2_indexOf_4cfef_8 : decode cJ2_indexOf_4cfef 8 = .ok (.arraylength, 1) := by decide +kernel
theorem dJ2_indexOf_4cfef_9 : decode cJ2_indexOf_4cfef 9 = .ok (.iconst 1, 1) := by decide +kernel
theorem dJ2_indexOf_4cfef_10 : decode cJ2_indexOf_4cfef 10 = .ok (.ishr, 1) := by decide +kernel
theorem dJ2_indexOf_4cfef_11 : decode cJ2_indexOf_4cfef 11 = .ok (.invokestatic 183, 3) := by decide +kernel
theorem dJ2_indexOf_4cfef_14 : decode cJ2_indexOf_4cfef 14 = .ok (.istore_n 3, 1) := by decide +kernel
theorem dJ2_indexOf_4cfef_15 : decode cJ2_indexOf_4cfef 15 = .ok (.iload_n 2, 1) := by decide +kernel
theorem dJ2_indexOf_4cfef_16 : decode cJ2_indexOf_4cfef 16 = .ok (.iload_n 3, 1) := by decide +kernel
theorem dJ2_indexOf_4cfef_17 : decode cJ2_indexOf_4cfef 17 = .ok (.if_icmp .lt 5, 3) := by decide +kernel
theorem dJ2_indexOf_4cfef_20 : decode cJ2_indexOf_4cfef 20 = .ok (.iconst (-1), 1) := by decide +kernel
theorem dJ2_indexOf_4cfef_21 : decode cJ2_indexOf_4cfef 21 = .ok (.ireturn, 1) := by decide +kernel
theorem dJ2_indexOf_4cfef_22 : decode cJ2_indexOf_4cfef 22 = .ok (.iload_n 1, 1) := by decide +kernel
theorem dJ2_indexOf_4cfef_23 : decode cJ2_indexOf_4cfef 23 = .ok (.ldc 227, 2) := by decide +kernel
theorem dJ2_indexOf_4cfef_25 : decode cJ2_indexOf_4cfef 25 = .ok (.if_icmp .ge 11, 3) := by decide +kernel
theorem dJ2_indexOf_4cfef_28 : decode cJ2_indexOf_4cfef 28 = .ok (.aload_n 0, 1) := by decide +kernel
theorem dJ2_indexOf_4cfef_29 : decode cJ2_indexOf_4cfef 29 = .ok (.iload_n 1, 1) := by decide +kernel
theorem dJ2_indexOf_4cfef_30 : decode cJ2_indexOf_4cfef 30 = .ok (.iload_n 2, 1) := by decide +kernel
theorem dJ2_indexOf_4cfef_31 : decode cJ2_indexOf_4cfef 31 = .ok (.iload_n 3, 1) := by decide +kernel
theorem dJ2_indexOf_4cfef_32 : decode cJ2_indexOf_4cfef 32 = .ok (.invokestatic 228, 3) := by decide +kernel
theorem dJ2_indexOf_4cfef_35 : decode cJ2_indexOf_4cfef 35 = .ok (.ireturn, 1) := by decide +kernel
theorem dJ2_indexOf_4cfef_36 : decode cJ2_indexOf_4cfef 36 = .ok (.aload_n 0, 1) := by decide +kernel
theorem dJ2_indexOf_4cfef_37 : decode cJ2_indexOf_4cfef 37 = .ok (.iload_n 1, 1) := by decide +kernel
theorem dJ2_indexOf_4cfef_38 : decode cJ2_indexOf_4cfef 38 = .ok (.iload_n 2, 1) := by decide +kernel
theorem dJ2_indexOf_4cfef_39 : decode cJ2_indexOf_4cfef 39 = .ok (.iload_n 3, 1) := by decide +kernel
theorem dJ2_indexOf_4cfef_40 : decode cJ2_indexOf_4cfef 40 = .ok (.invokestatic 232, 3) := by decide +kernel
theorem dJ2_indexOf_4cfef_43 : decode cJ2_indexOf_4cfef 43 = .ok (.ireturn, 1) := by decide +kernel
theorem dJ2_indexOfChar_4cfef_0 : decode cJ2_indexOfChar_4cfef 0 = .ok (.iload_n 2, 1) := by decide +kernel
theorem dJ2_indexOfChar_4cfef_1 : decode cJ2_indexOfChar_4cfef 1 = .ok (.iload_n 3, 1) := by decide +kernel
theorem dJ2_indexOfChar_4cfef_2 : decode cJ2_indexOfChar_4cfef 2 = .ok (.aload_n 0, 1) := by decide +kernel
theorem dJ2_indexOfChar_4cfef_3 : decode cJ2_indexOfChar_4cfef 3 = .ok (.invokestatic 96, 3) := by decide +kernel
theorem dJ2_indexOfChar_4cfef_6 : decode cJ2_indexOfChar_4cfef 6 = .ok (.aload_n 0, 1) := by decide +kernel
theorem dJ2_indexOfChar_4cfef_7 : decode cJ2_indexOfChar_4cfef 7 = .ok (.iload_n 1, 1) := by decide +kernel
theorem dJ2_indexOfChar_4cfef_8 : decode cJ2_indexOfChar_4cfef 8 = .ok (.iload_n 2, 1) := by decide +kernel
theorem dJ2_indexOfChar_4cfef_9 : decode cJ2_indexOfChar_4cfef 9 = .ok (.iload_n 3, 1) := by decide +kernel
theorem dJ2_indexOfChar_4cfef_10 : decode cJ2_indexOfChar_4cfef 10 = .ok (.invokestatic 244, 3) := by decide +kernel
theorem dJ2_indexOfChar_4cfef_13 : decode cJ2_indexOfChar_4cfef 13 = .ok (.ireturn, 1) := by decide +kernel
theorem dJ2_indexOfCharUnsafe_4cfef_0 : decode cJ2_indexOfCharUnsafe_4cfef 0 = .ok (.iload_n 2, 1) := by decide +kernel
theorem dJ2_indexOfCharUnsafe_4cfef_1 : decode cJ2_indexOfCharUnsafe_4cfef 1 = .ok (.istore 4, 2) := by decide +kernel
theorem dJ2_indexOfCharUnsafe_4cfef_3 : decode cJ2_indexOfCharUnsafe_4cfef 3 = .ok (.iload 4, 2) := by decide +kernel
theorem dJ2_indexOfCharUnsafe_4cfef_5 : decode cJ2_indexOfCharUnsafe_4cfef 5 = .ok (.iload_n 3, 1) := by decide +kernel
theorem dJ2_indexOfCharUnsafe_4cfef_6 : decode cJ2_indexOfCharUnsafe_4cfef 6 = .ok (.if_icmp .ge 22, 3) := by decide +kernel
theorem dJ2_indexOfCharUnsafe_4cfef_9 : decode cJ2_indexOfCharUnsafe_4cfef 9 = .ok (.aload_n 0, 1) := by decide +kernel
theorem dJ2_indexOfCharUnsafe_4cfef_10 : decode cJ2_indexOfCharUnsafe_4cfef 10 = .ok (.iload 4, 2) := by decide +kernel
theorem dJ2_indexOfCharUnsafe_4cfef_12 : decode cJ2_indexOfCharUnsafe_4cfef 12 = .ok (.invokestatic 71, 3) := by decide +kernel
theorem dJ2_indexOfCharUnsafe_4cfef_15 : decode cJ2_indexOfCharUnsafe_4cfef 15 = .ok (.iload_n 1, 1) := by decide +kernel
theorem dJ2_indexOfCharUnsafe_4cfef_16 : decode cJ2_indexOfCharUnsafe_4cfef 16 = .ok (.if_icmp .ne 6, 3) := by decide +kernel
theorem dJ2_indexOfCharUnsafe_4cfef_19 : decode cJ2_indexOfCharUnsafe_4cfef 19 = .ok (.iload 4, 2) := by decide +kernel
theorem dJ2_indexOfCharUnsafe_4cfef_21 : decode cJ2_indexOfCharUnsafe_4cfef 21 = .ok (.ireturn, 1) := by decide +kernel
theorem dJ2_indexOfCharUnsafe_4cfef_22 : decode cJ2_indexOfCharUnsafe_4cfef 22 = .ok (.iinc 4 1, 3) := by decide +kernel
theorem dJ2_indexOfCharUnsafe_4cfef_25 : decode cJ2_indexOfCharUnsafe_4cfef 25 = .ok (.goto (-22), 3) := by decide +kernel
theorem dJ2_indexOfCharUnsafe_4cfef_28 : decode cJ2_indexOfCharUnsafe_4cfef 28 = .ok (.iconst (-1), 1) := by decide +kernel
theorem dJ2_indexOfCharUnsafe_4cfef_29 : decode cJ2_indexOfCharUnsafe_4cfef 29 = .ok (.ireturn, 1) := by decide +kernel
theorem dJ2_indexOfSupplementary_4cfef_0 : decode cJ2_indexOfSupplementary_4cfef 0 = .ok (.iload_n 1, 1) := by decide +kernel
theorem dJ2_indexOfSupplementary_4cfef_1 : decode cJ2_indexOfSupplementary_4cfef 1 = .ok (.invokestatic 164, 3) := by decide +kernel
theorem dJ2_indexOfSupplementary_4cfef_4 : decode cJ2_indexOfSupplementary_4cfef 4 = .ok (.ifCond .eq 65, 3) := by decide +kernel
theorem dJ2_indexOfSupplementary_4cfef_7 : decode cJ2_indexOfSupplementary_4cfef 7 = .ok (.iload_n 1, 1) := by decide +kernel
theorem dJ2_indexOfSupplementary_4cfef_8 : decode cJ2_indexOfSupplementary_4cfef 8 = .ok (.invokestatic 157, 3) := by decide +kernel
theorem dJ2_indexOfSupplementary_4cfef_11 : decode cJ2_indexOfSupplementary_4cfef 11 = .ok (.istore 4, 2) := by decide +kernel
theorem dJ2_indexOfSupplementary_4cfef_13 : decode cJ2_indexOfSupplementary_4cfef 13 = .ok (.iload_n 1, 1) := by decide +kernel
theorem dJ2_indexOfSupplementary_4cfef_14 : decode cJ2_indexOfSupplementary_4cfef 14 = .ok (.invokestatic 161, 3) := by decide +kernel
theorem dJ2_indexOfSupplementary_4cfef_17 : decode cJ2_indexOfSupplementary_4cfef 17 = .ok (.istore 5, 2) := by decide +kernel
theorem dJ2_indexOfSupplementary_4cfef_19 : decode cJ2_indexOfSupplementary_4cfef 19 = .ok (.iload_n 2, 1) := by decide +kernel
theorem dJ2_indexOfSupplementary_4cfef_20 : decode cJ2_indexOfSupplementary_4cfef 20 = .ok (.iload_n 3, 1) := by decide +kernel
theorem dJ2_indexOfSupplementary_4cfef_21 : decode cJ2_indexOfSupplementary_4cfef 21 = .ok (.aload_n 0, 1) := by decide +kernel
theorem dJ2_indexOfSupplementary_4cfef_22 : decode cJ2_indexOfSupplementary_4cfef 22 = .ok (.invokestatic 96, 3) := by decide +kernel
theorem dJ2_indexOfSupplementary_4cfef_25 : decode cJ2_indexOfSupplementary_4cfef 25 = .ok (.iload_n 2, 1) := by decide +kernel
theorem dJ2_indexOfSupplementary_4cfef_26 : decode cJ2_indexOfSupplementary_4cfef 26 = .ok (.istore 6, 2) := by decide +kernel
theorem dJ2_indexOfSupplementary_4cfef_28 : decode cJ2_indexOfSupplementary_4cfef 28 = .ok (.iload 6, 2) := by decide +kernel
theorem dJ2_indexOfSupplementary_4cfef_30 : decode cJ2_indexOfSupplementary_4cfef 30 = .ok (.iload_n 3, 1) := by decide +kernel
theorem dJ2_indexOfSupplementary_4cfef_31 : decode cJ2_indexOfSupplementary_4cfef 31 = .ok (.iconst 1, 1) := by decide +kernel
theorem dJ2_indexOfSupplementary_4cfef_32 : decode cJ2_indexOfSupplementary_4cfef 32 = .ok (.isub, 1) := by decide +kernel
theorem dJ2_indexOfSupplementary_4cfef_33 : decode cJ2_indexOfSupplementary_4cfef 33 = .ok (.if_icmp .ge 36, 3) := by decide +kernel
theorem dJ2_indexOfSupplementary_4cfef_36 : decode cJ2_indexOfSupplementary_4cfef 36 = .ok (.aload_n 0, 1) := by decide +kernel
theorem dJ2_indexOfSupplementary_4cfef_37 : decode cJ2_indexOfSupplementary_4cfef 37 = .ok (.iload 6, 2) := by decide +kernel
theorem dJ2_indexOfSupplementary_4cfef_39 : decode cJ2_indexOfSupplementary_4cfef 39 = .ok (.invokestatic 71, 3) := by decide +kernel
theorem dJ2_indexOfSupplementary_4cfef_42 : decode cJ2_indexOfSupplementary_4cfef 42 = .ok (.iload 4, 2) := by decide +kernel
theorem dJ2_indexOfSupplementary_4cfef_44 : decode cJ2_indexOfSupplementary_4cfef 44 = .ok (.if_icmp .ne 19, 3) := by decide +kernel
theorem dJ2_indexOfSupplementary_4cfef_47 : decode cJ2_indexOfSupplementary_4cfef 47 = .ok (.aload_n 0, 1) := by decide +kernel
theorem dJ2_indexOfSupplementary_4cfef_48 : decode cJ2_indexOfSupplementary_4cfef 48 = .ok (.iload 6, 2) := by decide +kernel
theorem dJ2_indexOfSupplementary_4cfef_50 : decode cJ2_indexOfSupplementary_4cfef 50 = .ok (.iconst 1, 1) := by decide +kernel
theorem dJ2_indexOfSupplementary_4cfef_51 : decode cJ2_indexOfSupplementary_4cfef 51 = .ok (.iadd, 1) := by decide +kernel
theorem dJ2_indexOfSupplementary_4cfef_52 : decode cJ2_indexOfSupplementary_4cfef 52 = .ok (.invokestatic 71, 3) := by decide +kernel
theorem dJ2_indexOfSupplementary_4cfef_55 : decode cJ2_indexOfSupplementary_4cfef 55 = .ok (.iload 5, 2) := by decide +kernel
theorem dJ2_indexOfSupplementary_4cfef_57 : decode cJ2_indexOfSupplementary_4cfef 57 = .ok (.if_icmp .ne 6, 3) := by decide +kernel
theorem dJ2_indexOfSupplementary_4cfef_60 : decode cJ2_indexOfSupplementary_4cfef 60 = .ok (.iload 6, 2) := by decide +kernel
theorem dJ2_indexOfSupplementary_4cfef_62 : decode cJ2_indexOfSupplementary_4cfef 62 = .ok (.ireturn, 1) := by decide +kernel
theorem dJ2_indexOfSupplementary_4cfef_63 : decode cJ2_indexOfSupplementary_4cfef 63 = .ok (.iinc 6 1, 3) := by decide +kernel
theorem dJ2_indexOfSupplementary_4cfef_66 : decode cJ2_indexOfSupplementary_4cfef 66 = .ok (.goto (-38), 3) := by decide +kernel
theorem dJ2_indexOfSupplementary_4cfef_69 : decode cJ2_indexOfSupplementary_4cfef 69 = .ok (.iconst (-1), 1) := by decide +kernel
theorem dJ2_indexOfSupplementary_4cfef_70 : decode cJ2_indexOfSupplementary_4cfef 70 = .ok (.ireturn, 1) := by decide +kernel
theorem dJ2_charAt_3b067_0 : decode cJ2_charAt_3b067 0 = .ok (.iload_n 1, 1) := by decide +kernel
theorem dJ2_charAt_3b067_1 : decode cJ2_charAt_3b067 1 = .ok (.aload_n 0, 1) := by decide +kernel
theorem dJ2_charAt_3b067_2 : decode cJ2_charAt_3b067 2 = .ok (.invokestatic 67, 3) := by decide +kernel
theorem dJ2_charAt_3b067_5 : decode cJ2_charAt_3b067 5 = .ok (.aload_n 0, 1) := by decide +kernel
theorem dJ2_charAt_3b067_6 : decode cJ2_charAt_3b067 6 = .ok (.iload_n 1, 1) := by decide +kernel
theorem dJ2_charAt_3b067_7 : decode cJ2_charAt_3b067 7 = .ok (.invokestatic 71, 3) := by decide +kernel
theorem dJ2_charAt_3b067_10 : decode cJ2_charAt_3b067 10 = .ok (.ireturn, 1) := by decide +kernel
theorem dJ2_checkIndex_2214a_0 : decode cJ2_checkIndex_2214a 0 = .ok (.iload_n 0, 1) := by decide +kernel
theorem dJ2_checkIndex_2214a_1 : decode cJ2_checkIndex_2214a 1 = .ok (.aload_n 1, 1) := by decide +kernel
theorem dJ2_checkIndex_2214a_2 : decode cJ2_checkIndex_2214a 2 = .ok (.invokestatic 48, 3) := by decide +kernel
theorem dJ2_checkIndex_2214a_5 : decode cJ2_checkIndex_2214a 5 = .ok (.invokestatic 414, 3) := by decide +kernel
theorem dJ2_checkIndex_2214a_8 : decode cJ2_checkIndex_2214a 8 = .ok (.return_, 1) := by decide +kernel
theorem dJ2_checkBoundsBeginEnd_d044e_0 : decode cJ2_checkBoundsBeginEnd_d044e 0 = .ok (.iload_n 0, 1) := by decide +kernel
theorem dJ2_checkBoundsBeginEnd_d044e_1 : decode cJ2_checkBoundsBeginEnd_d044e 1 = .ok (.iload_n 1, 1) := by decide +kernel
theorem dJ2_checkBoundsBeginEnd_d044e_2 : decode cJ2_checkBoundsBeginEnd_d044e 2 = .ok (.aload_n 2, 1) := by decide +kernel
theorem dJ2_checkBoundsBeginEnd_d044e_3 : decode cJ2_checkBoundsBeginEnd_d044e 3 = .ok (.invokestatic 48, 3) := by decide +kernel
theorem dJ2_checkBoundsBeginEnd_d044e_6 : decode cJ2_checkBoundsBeginEnd_d044e 6 = .ok (.invokestatic 241, 3) := by decide +kernel
theorem dJ2_checkBoundsBeginEnd_d044e_9 : decode cJ2_checkBoundsBeginEnd_d044e 9 = .ok (.return_, 1) := by decide +kernel
theorem dJ3_checkIndex_8e157_0 : decode cJ3_checkIndex_8e157 0 = .ok (.iload_n 0, 1) := by decide +kernel
theorem dJ3_checkIndex_8e157_1 : decode cJ3_checkIndex_8e157 1 = .ok (.ifCond .lt 8, 3) := by decide +kernel
theorem dJ3_checkIndex_8e157_4 : decode cJ3_checkIndex_8e157 4 = .ok (.iload_n 0, 1) := by decide +kernel
theorem dJ3_checkIndex_8e157_5 : decode cJ3_checkIndex_8e157 5 = .ok (.iload_n 1, 1) := by decide +kernel
theorem dJ3_checkIndex_8e157_6 : decode cJ3_checkIndex_8e157 6 = .ok (.if_icmp .lt 10, 3) := by decide +kernel
theorem dJ3_checkIndex_8e157_9 : decode cJ3_checkIndex_8e157 9 = .ok (.aload_n 2, 1) := by decide +kernel
theorem dJ3_checkIndex_8e157_10 : decode cJ3_checkIndex_8e157 10 = .ok (.iload_n 0, 1) := by decide +kernel
theorem dJ3_checkIndex_8e157_11 : decode cJ3_checkIndex_8e157 11 = .ok (.iload_n 1, 1) := by decide +kernel
theorem dJ3_checkIndex_8e157_12 : decode cJ3_checkIndex_8e157 12 = .ok (.invokestatic 95, 3) := by decide +kernel
theorem dJ3_checkIndex_8e157_15 : decode cJ3_checkIndex_8e157 15 = .ok (.athrow, 1) := by decide +kernel
theorem dJ3_checkIndex_8e157_16 : decode cJ3_checkIndex_8e157 16 = .ok (.iload_n 0, 1) := by decide +kernel
theorem dJ3_checkIndex_8e157_17 : decode cJ3_checkIndex_8e157 17 = .ok (.ireturn, 1) := by decide +kernel
theorem dJ3_checkFromToIndex_8c36e_0 : decode cJ3_checkFromToIndex_8c36e 0 = .ok (.iload_n 0, 1) := by decide +kernel
theorem dJ3_checkFromToIndex_8c36e_1 : decode cJ3_checkFromToIndex_8c36e 1 = .ok (.ifCond .lt 13, 3) := by decide +kernel
theorem dJ3_checkFromToIndex_8c36e_4 : decode cJ3_checkFromToIndex_8c36e 4 = .ok (.iload_n 0, 1) := by decide +kernel
theorem dJ3_checkFromToIndex_8c36e_5 : decode cJ3_checkFromToIndex_8c36e 5 = .ok (.iload_n 1, 1) := by decide +kernel
theorem dJ3_checkFromToIndex_8c36e_6 : decode cJ3_checkFromToIndex_8c36e 6 = .ok (.if_icmp .gt 8, 3) := by decide +kernel
theorem dJ3_checkFromToIndex_8c36e_9 : decode cJ3_checkFromToIndex_8c36e 9 = .ok (.iload_n 1, 1) := by decide +kernel
theorem dJ3_checkFromToIndex_8c36e_10 : decode cJ3_checkFromToIndex_8c36e 10 = .ok (.iload_n 2, 1) := by decide +kernel
theorem dJ3_checkFromToIndex_8c36e_11 : decode cJ3_checkFromToIndex_8c36e 11 = .ok (.if_icmp .le 11, 3) := by decide +kernel
theorem dJ3_checkFromToIndex_8c36e_14 : decode cJ3_checkFromToIndex_8c36e 14 = .ok (.aload_n 3, 1) := by decide +kernel
theorem dJ3_checkFromToIndex_8c36e_15 : decode cJ3_checkFromToIndex_8c36e 15 = .ok (.iload_n 0, 1) := by decide +kernel
theorem dJ3_checkFromToIndex_8c36e_16 : decode cJ3_checkFromToIndex_8c36e 16 = .ok (.iload_n 1, 1) := by decide +kernel
theorem dJ3_checkFromToIndex_8c36e_17 : decode cJ3_checkFromToIndex_8c36e 17 = .ok (.iload_n 2, 1) := by decide +kernel
theorem dJ3_checkFromToIndex_8c36e_18 : decode cJ3_checkFromToIndex_8c36e 18 = .ok (.invokestatic 99, 3) := by decide +kernel
theorem dJ3_checkFromToIndex_8c36e_21 : decode cJ3_checkFromToIndex_8c36e 21 = .ok (.athrow, 1) := by decide +kernel
theorem dJ3_checkFromToIndex_8c36e_22 : decode cJ3_checkFromToIndex_8c36e 22 = .ok (.iload_n 0, 1) := by decide +kernel
theorem dJ3_checkFromToIndex_8c36e_23 : decode cJ3_checkFromToIndex_8c36e 23 = .ok (.ireturn, 1) := by decide +kernel
