theorem dX0_init_0 : decode cX0_init 0 = .ok (.aload_n 0, 1) := by decide +kernel
theorem dX0_init_1 : decode cX0_init 1 = .ok (.invokespecial 3, 3) := by decide +kernel
theorem dX0_init_4 : decode cX0_init 4 = .ok (.aload_n 0, 1) := by decide +kernel
theorem dX0_init_5 : decode cX0_init 5 = .ok (.getstatic 9, 3) := by decide +kernel
theorem dX0_init_8 : decode cX0_init 8 = .ok (.invokevirtual 13, 3) := by decide +kernel
theorem dX0_init_11 : decode cX0_init 11 = .ok (.checkcast 14, 3) := by decide +kernel
theorem dX0_init_14 : decode cX0_init 14 = .ok (.putfield 18, 3) := by decide +kernel
theorem dX0_init_17 : decode cX0_init 17 = .ok (.aload_n 0, 1) := by decide +kernel
theorem dX0_init_18 : decode cX0_init 18 = .ok (.iconst (-1), 1) := by decide +kernel
theorem dX0_init_19 : decode cX0_init 19 = .ok (.putfield 23, 3) := by decide +kernel
theorem dX0_init_22 : decode cX0_init 22 = .ok (.return_, 1) := by decide +kernel
theorem dX1_init_0 : decode cX1_init 0 = .ok (.aload_n 0, 1) := by decide +kernel
theorem dX1_init_1 : decode cX1_init 1 = .ok (.invokespecial 3, 3) := by decide +kernel
theorem dX1_init_4 : decode cX1_init 4 = .ok (.aload_n 0, 1) := by decide +kernel
theorem dX1_init_5 : decode cX1_init 5 = .ok (.sipush 256, 3) := by decide +kernel
theorem dX1_init_8 : decode cX1_init 8 = .ok (.anewarray 9, 3) := by decide +kernel
theorem dX1_init_11 : decode cX1_init 11 = .ok (.putfield 11, 3) := by decide +kernel
theorem dX1_init_14 : decode cX1_init 14 = .ok (.aload_n 0, 1) := by decide +kernel
theorem dX1_init_15 : decode cX1_init 15 = .ok (.iconst 0, 1) := by decide +kernel
theorem dX1_init_16 : decode cX1_init 16 = .ok (.putfield 17, 3) := by decide +kernel
theorem dX1_init_19 : decode cX1_init 19 = .ok (.aload_n 0, 1) := by decide +kernel
theorem dX1_init_20 : decode cX1_init 20 = .ok (.iconst 0, 1) := by decide +kernel
theorem dX1_init_21 : decode cX1_init 21 = .ok (.putfield 21, 3) := by decide +kernel
theorem dX1_init_24 : decode cX1_init 24 = .ok (.aload_n 0, 1) := by decide +kernel
theorem dX1_init_25 : decode cX1_init 25 = .ok (.iconst 0, 1) := by decide +kernel
theorem dX1_init_26 : decode cX1_init 26 = .ok (.putfield 25, 3) := by decide +kernel
theorem dX1_init_29 : decode cX1_init 29 = .ok (.aload_n 0, 1) := by decide +kernel
theorem dX1_init_30 : decode cX1_init 30 = .ok (.iload_n 1, 1) := by decide +kernel
theorem dX1_init_31 : decode cX1_init 31 = .ok (.putfield 28, 3) := by decide +kernel
theorem dX1_init_34 : decode cX1_init 34 = .ok (.aload_n 0, 1) := by decide +kernel
theorem dX1_init_35 : decode cX1_init 35 = .ok (.aload_n 2, 1) := by decide +kernel
theorem dX1_init_36 : decode cX1_init 36 = .ok (.putfield 31, 3) := by decide +kernel
theorem dX1_init_39 : decode cX1_init 39 = .ok (.return_, 1) := by decide +kernel
theorem dX1_glyphFor_0 : decode cX1_glyphFor 0 = .ok (.iload_n 1, 1) := by decide +kernel
theorem dX1_glyphFor_1 : decode cX1_glyphFor 1 = .ok (.iconst 0, 1) := by decide +kernel
theorem dX1_glyphFor_2 : decode cX1_glyphFor 2 = .ok (.sipush 255, 3) := by decide +kernel
theorem dX1_glyphFor_5 : decode cX1_glyphFor 5 = .ok (.invokestatic 35, 3) := by decide +kernel
theorem dX1_glyphFor_8 : decode cX1_glyphFor 8 = .ok (.ifCond .eq 12, 3) := by decide +kernel
theorem dX1_glyphFor_11 : decode cX1_glyphFor 11 = .ok (.aload_n 0, 1) := by decide +kernel
theorem dX1_glyphFor_12 : decode cX1_glyphFor 12 = .ok (.getfield 11, 3) := by decide +kernel
theorem dX1_glyphFor_15 : decode cX1_glyphFor 15 = .ok (.iload_n 1, 1) := by decide +kernel
theorem dX1_glyphFor_16 : decode cX1_glyphFor 16 = .ok (.aaload, 1) := by decide +kernel
theorem dX1_glyphFor_17 : decode cX1_glyphFor 17 = .ok (.goto 4, 3) := by decide +kernel
theorem dX1_glyphFor_20 : decode cX1_glyphFor 20 = .ok (.aconst_null, 1) := by decide +kernel
theorem dX1_glyphFor_21 : decode cX1_glyphFor 21 = .ok (.areturn, 1) := by decide +kernel
theorem dX1_put_0 : decode cX1_put 0 = .ok (.iload_n 1, 1) := by decide +kernel
theorem dX1_put_1 : decode cX1_put 1 = .ok (.iconst 0, 1) := by decide +kernel
theorem dX1_put_2 : decode cX1_put 2 = .ok (.sipush 255, 3) := by decide +kernel
theorem dX1_put_5 : decode cX1_put 5 = .ok (.invokestatic 35, 3) := by decide +kernel
theorem dX1_put_8 : decode cX1_put 8 = .ok (.ifCond .eq 33, 3) := by decide +kernel
theorem dX1_put_11 : decode cX1_put 11 = .ok (.aload_n 0, 1) := by decide +kernel
theorem dX1_put_12 : decode cX1_put 12 = .ok (.getfield 11, 3) := by decide +kernel
theorem dX1_put_15 : decode cX1_put 15 = .ok (.iload_n 1, 1) := by decide +kernel
theorem dX1_put_16 : decode cX1_put 16 = .ok (.aload_n 2, 1) := by decide +kernel
theorem dX1_put_17 : decode cX1_put 17 = .ok (.aastore, 1) := by decide +kernel
theorem dX1_put_18 : decode cX1_put 18 = .ok (.aload_n 0, 1) := by decide +kernel
theorem dX1_put_19 : decode cX1_put 19 = .ok (.dup, 1) := by decide +kernel
theorem dX1_put_20 : decode cX1_put 20 = .ok (.getfield 21, 3) := by decide +kernel
theorem dX1_put_23 : decode cX1_put 23 = .ok (.iconst 1, 1) := by decide +kernel
theorem dX1_put_24 : decode cX1_put 24 = .ok (.iadd, 1) := by decide +kernel
theorem dX1_put_25 : decode cX1_put 25 = .ok (.putfield 21, 3) := by decide +kernel
theorem dX1_put_28 : decode cX1_put 28 = .ok (.aload_n 0, 1) := by decide +kernel
theorem dX1_put_29 : decode cX1_put 29 = .ok (.dup, 1) := by decide +kernel
theorem dX1_put_30 : decode cX1_put 30 = .ok (.getfield 25, 3) := by decide +kernel
theorem dX1_put_33 : decode cX1_put 33 = .ok (.aload_n 2, 1) := by decide +kernel
theorem dX1_put_34 : decode cX1_put 34 = .ok (.invokevirtual 39, 3) := by decide +kernel
theorem dX1_put_37 : decode cX1_put 37 = .ok (.iadd, 1) := by decide +kernel
theorem dX1_put_38 : decode cX1_put 38 = .ok (.putfield 25, 3) := by decide +kernel
theorem dX1_put_41 : decode cX1_put 41 = .ok (.return_, 1) := by decide +kernel
theorem dX1_remove_0 : decode cX1_remove 0 = .ok (.aload_n 0, 1) := by decide +kernel
theorem dX1_remove_1 : decode cX1_remove 1 = .ok (.iload_n 1, 1) := by decide +kernel
theorem dX1_remove_2 : decode cX1_remove 2 = .ok (.invokevirtual 43, 3) := by decide +kernel
theorem dX1_remove_5 : decode cX1_remove 5 = .ok (.astore_n 2, 1) := by decide +kernel
theorem dX1_remove_6 : decode cX1_remove 6 = .ok (.aload_n 2, 1) := by decide +kernel
theorem dX1_remove_7 : decode cX1_remove 7 = .ok (.ifnonnull 5, 3) := by decide +kernel
theorem dX1_remove_10 : decode cX1_remove 10 = .ok (.iconst 0, 1) := by decide +kernel
theorem dX1_remove_11 : decode cX1_remove 11 = .ok (.ireturn, 1) := by decide +kernel
theorem dX1_remove_12 : decode cX1_remove 12 = .ok (.aload_n 0, 1) := by decide +kernel
theorem dX1_remove_13 : decode cX1_remove 13 = .ok (.getfield 11, 3) := by decide +kernel
theorem dX1_remove_16 : decode cX1_remove 16 = .ok (.iload_n 1, 1) := by decide +kernel
theorem dX1_remove_17 : decode cX1_remove 17 = .ok (.aconst_null, 1) := by decide +kernel
theorem dX1_remove_18 : decode cX1_remove 18 = .ok (.aastore, 1) := by decide +kernel
theorem dX1_remove_19 : decode cX1_remove 19 = .ok (.aload_n 0, 1) := by decide +kernel
theorem dX1_remove_20 : decode cX1_remove 20 = .ok (.dup, 1) := by decide +kernel
theorem dX1_remove_21 : decode cX1_remove 21 = .ok (.getfield 21, 3) := by decide +kernel
theorem dX1_remove_24 : decode cX1_remove 24 = .ok (.iconst 1, 1) := by decide +kernel
theorem dX1_remove_25 : decode cX1_remove 25 = .ok (.isub, 1) := by decide +kernel
theorem dX1_remove_26 : decode cX1_remove 26 = .ok (.putfield 21, 3) := by decide +kernel
theorem dX1_remove_29 : decode cX1_remove 29 = .ok (.aload_n 0, 1) := by decide +kernel
theorem dX1_remove_30 : decode cX1_remove 30 = .ok (.dup, 1) := by decide +kernel
theorem dX1_remove_31 : decode cX1_remove 31 = .ok (.getfield 25, 3) := by decide +kernel
theorem dX1_remove_34 : decode cX1_remove 34 = .ok (.aload_n 2, 1) := by decide +kernel
theorem dX1_remove_35 : decode cX1_remove 35 = .ok (.invokevirtual 39, 3) := by decide +kernel
theorem dX1_remove_38 : decode cX1_remove 38 = .ok (.isub, 1) := by decide +kernel
theorem dX1_remove_39 : decode cX1_remove 39 = .ok (.putfield 25, 3) := by decide +kernel
theorem dX1_remove_42 : decode cX1_remove 42 = .ok (.iconst 1, 1) := by decide +kernel
theorem dX1_remove_43 : decode cX1_remove 43 = .ok (.ireturn, 1) := by decide +kernel
theorem dX2_init_0 : decode cX2_init 0 = .ok (.aload_n 0, 1) := by decide +kernel
theorem dX2_init_1 : decode cX2_init 1 = .ok (.invokespecial 1, 3) := by decide +kernel
theorem dX2_init_4 : decode cX2_init 4 = .ok (.aload_n 0, 1) := by decide +kernel
theorem dX2_init_5 : decode cX2_init 5 = .ok (.iconst 0, 1) := by decide +kernel
theorem dX2_init_6 : decode cX2_init 6 = .ok (.putfield 7, 3) := by decide +kernel
theorem dX2_init_9 : decode cX2_init 9 = .ok (.aload_n 0, 1) := by decide +kernel
theorem dX2_init_10 : decode cX2_init 10 = .ok (.iload_n 1, 1) := by decide +kernel
theorem dX2_init_11 : decode cX2_init 11 = .ok (.putfield 13, 3) := by decide +kernel
theorem dX2_init_14 : decode cX2_init 14 = .ok (.aload_n 0, 1) := by decide +kernel
theorem dX2_init_15 : decode cX2_init 15 = .ok (.iload_n 2, 1) := by decide +kernel
theorem dX2_init_16 : decode cX2_init 16 = .ok (.putfield 16, 3) := by decide +kernel
theorem dX2_init_19 : decode cX2_init 19 = .ok (.aload_n 0, 1) := by decide +kernel
theorem dX2_init_20 : decode cX2_init 20 = .ok (.iload_n 3, 1) := by decide +kernel
theorem dX2_init_21 : decode cX2_init 21 = .ok (.putfield 19, 3) := by decide +kernel
theorem dX2_init_24 : decode cX2_init 24 = .ok (.aload_n 0, 1) := by decide +kernel
theorem dX2_init_25 : decode cX2_init 25 = .ok (.iload 4, 2) := by decide +kernel
theorem dX2_init_27 : decode cX2_init 27 = .ok (.putfield 22, 3) := by decide +kernel
theorem dX2_init_30 : decode cX2_init 30 = .ok (.aload_n 0, 1) := by decide +kernel
theorem dX2_init_31 : decode cX2_init 31 = .ok (.iload 5, 2) := by decide +kernel
theorem dX2_init_33 : decode cX2_init 33 = .ok (.putfield 25, 3) := by decide +kernel
theorem dX2_init_36 : decode cX2_init 36 = .ok (.aload_n 0, 1) := by decide +kernel
theorem dX2_init_37 : decode cX2_init 37 = .ok (.iload_n 3, 1) := by decide +kernel
theorem dX2_init_38 : decode cX2_init 38 = .ok (.bipush 7, 2) := by decide +kernel
theorem dX2_init_40 : decode cX2_init 40 = .ok (.iadd, 1) := by decide +kernel
theorem dX2_init_41 : decode cX2_init 41 = .ok (.bipush 8, 2) := by decide +kernel
theorem dX2_init_43 : decode cX2_init 43 = .ok (.idiv, 1) := by decide +kernel
theorem dX2_init_44 : decode cX2_init 44 = .ok (.putfield 28, 3) := by decide +kernel
theorem dX2_init_47 : decode cX2_init 47 = .ok (.aload_n 0, 1) := by decide +kernel
theorem dX2_init_48 : decode cX2_init 48 = .ok (.iload_n 3, 1) := by decide +kernel
theorem dX2_init_49 : decode cX2_init 49 = .ok (.bipush 63, 2) := by decide +kernel
theorem dX2_init_51 : decode cX2_init 51 = .ok (.iadd, 1) := by decide +kernel
theorem dX2_init_52 : decode cX2_init 52 = .ok (.bipush 64, 2) := by decide +kernel
theorem dX2_init_54 : decode cX2_init 54 = .ok (.idiv, 1) := by decide +kernel
theorem dX2_init_55 : decode cX2_init 55 = .ok (.putfield 31, 3) := by decide +kernel
theorem dX2_init_58 : decode cX2_init 58 = .ok (.aload_n 0, 1) := by decide +kernel
theorem dX2_init_59 : decode cX2_init 59 = .ok (.iconst 0, 1) := by decide +kernel
theorem dX2_init_60 : decode cX2_init 60 = .ok (.iload 4, 2) := by decide +kernel
theorem dX2_init_62 : decode cX2_init 62 = .ok (.aload_n 0, 1) := by decide +kernel
theorem dX2_init_63 : decode cX2_init 63 = .ok (.getfield 31, 3) := by decide +kernel
theorem dX2_init_66 : decode cX2_init 66 = .ok (.imul, 1) := by decide +kernel
theorem dX2_init_67 : decode cX2_init 67 = .ok (.invokestatic 34, 3) := by decide +kernel
theorem dX2_init_70 : decode cX2_init 70 = .ok (.newarray .long, 2) := by decide +kernel
theorem dX2_init_72 : decode cX2_init 72 = .ok (.putfield 40, 3) := by decide +kernel
theorem dX2_init_75 : decode cX2_init 75 = .ok (.return_, 1) := by decide +kernel
theorem dX2_size_0 : decode cX2_size 0 = .ok (.aload_n 0, 1) := by decide +kernel
theorem dX2_size_1 : decode cX2_size 1 = .ok (.getfield 22, 3) := by decide +kernel
theorem dX2_size_4 : decode cX2_size 4 = .ok (.aload_n 0, 1) := by decide +kernel
theorem dX2_size_5 : decode cX2_size 5 = .ok (.getfield 28, 3) := by decide +kernel
theorem dX2_size_8 : decode cX2_size 8 = .ok (.imul, 1) := by decide +kernel
theorem dX2_size_9 : decode cX2_size 9 = .ok (.ireturn, 1) := by decide +kernel
theorem dX2_missing_0 : decode cX2_missing 0 = .ok (.aload_n 0, 1) := by decide +kernel
theorem dX2_missing_1 : decode cX2_missing 1 = .ok (.invokevirtual 44, 3) := by decide +kernel
theorem dX2_missing_4 : decode cX2_missing 4 = .ok (.aload_n 0, 1) := by decide +kernel
theorem dX2_missing_5 : decode cX2_missing 5 = .ok (.getfield 7, 3) := by decide +kernel
theorem dX2_missing_8 : decode cX2_missing 8 = .ok (.isub, 1) := by decide +kernel
theorem dX2_missing_9 : decode cX2_missing 9 = .ok (.ireturn, 1) := by decide +kernel
theorem dX2_addByte_0 : decode cX2_addByte 0 = .ok (.aload_n 0, 1) := by decide +kernel
theorem dX2_addByte_1 : decode cX2_addByte 1 = .ok (.invokevirtual 48, 3) := by decide +kernel
theorem dX2_addByte_4 : decode cX2_addByte 4 = .ok (.ifCond .le 10, 3) := by decide +kernel
theorem dX2_addByte_7 : decode cX2_addByte 7 = .ok (.aload_n 0, 1) := by decide +kernel
theorem dX2_addByte_8 : decode cX2_addByte 8 = .ok (.getfield 28, 3) := by decide +kernel
theorem dX2_addByte_11 : decode cX2_addByte 11 = .ok (.ifCond .gt 4, 3) := by decide +kernel
theorem dX2_addByte_14 : decode cX2_addByte 14 = .ok (.return_, 1) := by decide +kernel
theorem dX2_addByte_15 : decode cX2_addByte 15 = .ok (.aload_n 0, 1) := by decide +kernel
theorem dX2_addByte_16 : decode cX2_addByte 16 = .ok (.getfield 7, 3) := by decide +kernel
theorem dX2_addByte_19 : decode cX2_addByte 19 = .ok (.aload_n 0, 1) := by decide +kernel
theorem dX2_addByte_20 : decode cX2_addByte 20 = .ok (.getfield 28, 3) := by decide +kernel
theorem dX2_addByte_23 : decode cX2_addByte 23 = .ok (.idiv, 1) := by decide +kernel
theorem dX2_addByte_24 : decode cX2_addByte 24 = .ok (.istore_n 2, 1) := by decide +kernel
theorem dX2_addByte_25 : decode cX2_addByte 25 = .ok (.aload_n 0, 1) := by decide +kernel
theorem dX2_addByte_26 : decode cX2_addByte 26 = .ok (.getfield 7, 3) := by decide +kernel
theorem dX2_addByte_29 : decode cX2_addByte 29 = .ok (.aload_n 0, 1) := by decide +kernel
theorem dX2_addByte_30 : decode cX2_addByte 30 = .ok (.getfield 28, 3) := by decide +kernel
theorem dX2_addByte_33 : decode cX2_addByte 33 = .ok (.irem, 1) := by decide +kernel
theorem dX2_addByte_34 : decode cX2_addByte 34 = .ok (.istore_n 3, 1) := by decide +kernel
theorem dX2_addByte_35 : decode cX2_addByte 35 = .ok (.iconst 0, 1) := by decide +kernel
theorem dX2_addByte_36 : decode cX2_addByte 36 = .ok (.bipush 8, 2) := by decide +kernel
theorem dX2_addByte_38 : decode cX2_addByte 38 = .ok (.iload_n 3, 1) := by decide +kernel
theorem dX2_addByte_39 : decode cX2_addByte 39 = .ok (.imul, 1) := by decide +kernel
theorem dX2_addByte_40 : decode cX2_addByte 40 = .ok (.bipush 8, 2) := by decide +kernel
theorem dX2_addByte_42 : decode cX2_addByte 42 = .ok (.iadd, 1) := by decide +kernel
theorem dX2_addByte_43 : decode cX2_addByte 43 = .ok (.aload_n 0, 1) := by decide +kernel
theorem dX2_addByte_44 : decode cX2_addByte 44 = .ok (.getfield 19, 3) := by decide +kernel
theorem dX2_addByte_47 : decode cX2_addByte 47 = .ok (.isub, 1) := by decide +kernel
theorem dX2_addByte_48 : decode cX2_addByte 48 = .ok (.invokestatic 34, 3) := by decide +kernel
theorem dX2_addByte_51 : decode cX2_addByte 51 = .ok (.istore 4, 2) := by decide +kernel
theorem dX2_addByte_53 : decode cX2_addByte 53 = .ok (.iload_n 1, 1) := by decide +kernel
theorem dX2_addByte_54 : decode cX2_addByte 54 = .ok (.iload 4, 2) := by decide +kernel
theorem dX2_addByte_56 : decode cX2_addByte 56 = .ok (.iushr, 1) := by decide +kernel
theorem dX2_addByte_57 : decode cX2_addByte 57 = .ok (.iload 4, 2) := by decide +kernel
theorem dX2_addByte_59 : decode cX2_addByte 59 = .ok (.ishl, 1) := by decide +kernel
theorem dX2_addByte_60 : decode cX2_addByte 60 = .ok (.i2l, 1) := by decide +kernel
theorem dX2_addByte_61 : decode cX2_addByte 61 = .ok (.lstore 5, 2) := by decide +kernel
theorem dX2_addByte_63 : decode cX2_addByte 63 = .ok (.iload_n 2, 1) := by decide +kernel
theorem dX2_addByte_64 : decode cX2_addByte 64 = .ok (.aload_n 0, 1) := by decide +kernel
theorem dX2_addByte_65 : decode cX2_addByte 65 = .ok (.getfield 31, 3) := by decide +kernel
theorem dX2_addByte_68 : decode cX2_addByte 68 = .ok (.imul, 1) := by decide +kernel
theorem dX2_addByte_69 : decode cX2_addByte 69 = .ok (.iload_n 3, 1) := by decide +kernel
theorem dX2_addByte_70 : decode cX2_addByte 70 = .ok (.bipush 8, 2) := by decide +kernel
theorem dX2_addByte_72 : decode cX2_addByte 72 = .ok (.idiv, 1) := by decide +kernel
theorem dX2_addByte_73 : decode cX2_addByte 73 = .ok (.iadd, 1) := by decide +kernel
theorem dX2_addByte_74 : decode cX2_addByte 74 = .ok (.istore 7, 2) := by decide +kernel
theorem dX2_addByte_76 : decode cX2_addByte 76 = .ok (.iload 7, 2) := by decide +kernel
theorem dX2_addByte_78 : decode cX2_addByte 78 = .ok (.iconst 0, 1) := by decide +kernel
theorem dX2_addByte_79 : decode cX2_addByte 79 = .ok (.aload_n 0, 1) := by decide +kernel
theorem dX2_addByte_80 : decode cX2_addByte 80 = .ok (.getfield 40, 3) := by decide +kernel
theorem dX2_addByte_83 : decode cX2_addByte 83 = .ok (.arraylength, 1) := by decide +kernel
theorem dX2_addByte_84 : decode cX2_addByte 84 = .ok (.iconst 1, 1) := by decide +kernel
theorem dX2_addByte_85 : decode cX2_addByte 85 = .ok (.isub, 1) := by decide +kernel
theorem dX2_addByte_86 : decode cX2_addByte 86 = .ok (.invokestatic 51, 3) := by decide +kernel
theorem dX2_addByte_89 : decode cX2_addByte 89 = .ok (.ifCond .eq 26, 3) := by decide +kernel
theorem dX2_addByte_92 : decode cX2_addByte 92 = .ok (.aload_n 0, 1) := by decide +kernel
theorem dX2_addByte_93 : decode cX2_addByte 93 = .ok (.getfield 40, 3) := by decide +kernel
theorem dX2_addByte_96 : decode cX2_addByte 96 = .ok (.iload 7, 2) := by decide +kernel
theorem dX2_addByte_98 : decode cX2_addByte 98 = .ok (.dup2, 1) := by decide +kernel
theorem dX2_addByte_99 : decode cX2_addByte 99 = .ok (.laload, 1) := by decide +kernel
theorem dX2_addByte_100 : decode cX2_addByte 100 = .ok (.lload 5, 2) := by decide +kernel
theorem dX2_addByte_102 : decode cX2_addByte 102 = .ok (.bipush 56, 2) := by decide +kernel
theorem dX2_addByte_104 : decode cX2_addByte 104 = .ok (.bipush 8, 2) := by decide +kernel
theorem dX2_addByte_106 : decode cX2_addByte 106 = .ok (.iload_n 3, 1) := by decide +kernel
theorem dX2_addByte_107 : decode cX2_addByte 107 = .ok (.bipush 8, 2) := by decide +kernel
theorem dX2_addByte_109 : decode cX2_addByte 109 = .ok (.irem, 1) := by decide +kernel
theorem dX2_addByte_110 : decode cX2_addByte 110 = .ok (.imul, 1) := by decide +kernel
theorem dX2_addByte_111 : decode cX2_addByte 111 = .ok (.isub, 1) := by decide +kernel
theorem dX2_addByte_112 : decode cX2_addByte 112 = .ok (.lshl, 1) := by decide +kernel
theorem dX2_addByte_113 : decode cX2_addByte 113 = .ok (.lor, 1) := by decide +kernel
theorem dX2_addByte_114 : decode cX2_addByte 114 = .ok (.lastore, 1) := by decide +kernel
theorem dX2_addByte_115 : decode cX2_addByte 115 = .ok (.aload_n 0, 1) := by decide +kernel
theorem dX2_addByte_116 : decode cX2_addByte 116 = .ok (.dup, 1) := by decide +kernel
theorem dX2_addByte_117 : decode cX2_addByte 117 = .ok (.getfield 7, 3) := by decide +kernel
theorem dX2_addByte_120 : decode cX2_addByte 120 = .ok (.iconst 1, 1) := by decide +kernel
theorem dX2_addByte_121 : decode cX2_addByte 121 = .ok (.iadd, 1) := by decide +kernel
theorem dX2_addByte_122 : decode cX2_addByte 122 = .ok (.putfield 7, 3) := by decide +kernel
theorem dX2_addByte_125 : decode cX2_addByte 125 = .ok (.return_, 1) := by decide +kernel
theorem dX2_blackDots_0 : decode cX2_blackDots 0 = .ok (.iconst 0, 1) := by decide +kernel
theorem dX2_blackDots_1 : decode cX2_blackDots 1 = .ok (.istore_n 1, 1) := by decide +kernel
theorem dX2_blackDots_2 : decode cX2_blackDots 2 = .ok (.iconst 0, 1) := by decide +kernel
theorem dX2_blackDots_3 : decode cX2_blackDots 3 = .ok (.istore_n 2, 1) := by decide +kernel
theorem dX2_blackDots_4 : decode cX2_blackDots 4 = .ok (.iload_n 2, 1) := by decide +kernel
theorem dX2_blackDots_5 : decode cX2_blackDots 5 = .ok (.aload_n 0, 1) := by decide +kernel
theorem dX2_blackDots_6 : decode cX2_blackDots 6 = .ok (.getfield 40, 3) := by decide +kernel
theorem dX2_blackDots_9 : decode cX2_blackDots 9 = .ok (.arraylength, 1) := by decide +kernel
theorem dX2_blackDots_10 : decode cX2_blackDots 10 = .ok (.if_icmp .ge 21, 3) := by decide +kernel
theorem dX2_blackDots_13 : decode cX2_blackDots 13 = .ok (.iload_n 1, 1) := by decide +kernel
theorem dX2_blackDots_14 : decode cX2_blackDots 14 = .ok (.aload_n 0, 1) := by decide +kernel
theorem dX2_blackDots_15 : decode cX2_blackDots 15 = .ok (.getfield 40, 3) := by decide +kernel
theorem dX2_blackDots_18 : decode cX2_blackDots 18 = .ok (.iload_n 2, 1) := by decide +kernel
theorem dX2_blackDots_19 : decode cX2_blackDots 19 = .ok (.laload, 1) := by decide +kernel
theorem dX2_blackDots_20 : decode cX2_blackDots 20 = .ok (.invokestatic 57, 3) := by decide +kernel
theorem dX2_blackDots_23 : decode cX2_blackDots 23 = .ok (.iadd, 1) := by decide +kernel
theorem dX2_blackDots_24 : decode cX2_blackDots 24 = .ok (.istore_n 1, 1) := by decide +kernel
theorem dX2_blackDots_25 : decode cX2_blackDots 25 = .ok (.iinc 2 1, 3) := by decide +kernel
theorem dX2_blackDots_28 : decode cX2_blackDots 28 = .ok (.goto (-24), 3) := by decide +kernel
theorem dX2_blackDots_31 : decode cX2_blackDots 31 = .ok (.iload_n 1, 1) := by decide +kernel
theorem dX2_blackDots_32 : decode cX2_blackDots 32 = .ok (.ireturn, 1) := by decide +kernel
theorem dX2_dotsAt_0 : decode cX2_dotsAt 0 = .ok (.iload_n 1, 1) := by decide +kernel
theorem dX2_dotsAt_1 : decode cX2_dotsAt 1 = .ok (.iconst 0, 1) := by decide +kernel
theorem dX2_dotsAt_2 : decode cX2_dotsAt 2 = .ok (.aload_n 0, 1) := by decide +kernel
theorem dX2_dotsAt_3 : decode cX2_dotsAt 3 = .ok (.getfield 22, 3) := by decide +kernel
theorem dX2_dotsAt_6 : decode cX2_dotsAt 6 = .ok (.iconst 1, 1) := by decide +kernel
theorem dX2_dotsAt_7 : decode cX2_dotsAt 7 = .ok (.isub, 1) := by decide +kernel
theorem dX2_dotsAt_8 : decode cX2_dotsAt 8 = .ok (.invokestatic 51, 3) := by decide +kernel
theorem dX2_dotsAt_11 : decode cX2_dotsAt 11 = .ok (.ifCond .eq 17, 3) := by decide +kernel
theorem dX2_dotsAt_14 : decode cX2_dotsAt 14 = .ok (.iload_n 2, 1) := by decide +kernel
theorem dX2_dotsAt_15 : decode cX2_dotsAt 15 = .ok (.iconst 0, 1) := by decide +kernel
theorem dX2_dotsAt_16 : decode cX2_dotsAt 16 = .ok (.aload_n 0, 1) := by decide +kernel
theorem dX2_dotsAt_17 : decode cX2_dotsAt 17 = .ok (.getfield 31, 3) := by decide +kernel
theorem dX2_dotsAt_20 : decode cX2_dotsAt 20 = .ok (.iconst 1, 1) := by decide +kernel
theorem dX2_dotsAt_21 : decode cX2_dotsAt 21 = .ok (.isub, 1) := by decide +kernel
theorem dX2_dotsAt_22 : decode cX2_dotsAt 22 = .ok (.invokestatic 51, 3) := by decide +kernel
theorem dX2_dotsAt_25 : decode cX2_dotsAt 25 = .ok (.ifCond .ne 5, 3) := by decide +kernel
theorem dX2_dotsAt_28 : decode cX2_dotsAt 28 = .ok (.lconst 0, 1) := by decide +kernel
theorem dX2_dotsAt_29 : decode cX2_dotsAt 29 = .ok (.lreturn, 1) := by decide +kernel
theorem dX2_dotsAt_30 : decode cX2_dotsAt 30 = .ok (.iload_n 1, 1) := by decide +kernel
theorem dX2_dotsAt_31 : decode cX2_dotsAt 31 = .ok (.aload_n 0, 1) := by decide +kernel
theorem dX2_dotsAt_32 : decode cX2_dotsAt 32 = .ok (.getfield 31, 3) := by decide +kernel
theorem dX2_dotsAt_35 : decode cX2_dotsAt 35 = .ok (.imul, 1) := by decide +kernel
theorem dX2_dotsAt_36 : decode cX2_dotsAt 36 = .ok (.iload_n 2, 1) := by decide +kernel
theorem dX2_dotsAt_37 : decode cX2_dotsAt 37 = .ok (.iadd, 1) := by decide +kernel
theorem dX2_dotsAt_38 : decode cX2_dotsAt 38 = .ok (.istore_n 3, 1) := by decide +kernel
theorem dX2_dotsAt_39 : decode cX2_dotsAt 39 = .ok (.iload_n 3, 1) := by decide +kernel
theorem dX2_dotsAt_40 : decode cX2_dotsAt 40 = .ok (.iconst 0, 1) := by decide +kernel
theorem dX2_dotsAt_41 : decode cX2_dotsAt 41 = .ok (.aload_n 0, 1) := by decide +kernel
theorem dX2_dotsAt_42 : decode cX2_dotsAt 42 = .ok (.getfield 40, 3) := by decide +kernel
theorem dX2_dotsAt_45 : decode cX2_dotsAt 45 = .ok (.arraylength, 1) := by decide +kernel
theorem dX2_dotsAt_46 : decode cX2_dotsAt 46 = .ok (.iconst 1, 1) := by decide +kernel
theorem dX2_dotsAt_47 : decode cX2_dotsAt 47 = .ok (.isub, 1) := by decide +kernel
theorem dX2_dotsAt_48 : decode cX2_dotsAt 48 = .ok (.invokestatic 51, 3) := by decide +kernel
theorem dX2_dotsAt_51 : decode cX2_dotsAt 51 = .ok (.ifCond .eq 12, 3) := by decide +kernel
theorem dX2_dotsAt_54 : decode cX2_dotsAt 54 = .ok (.aload_n 0, 1) := by decide +kernel
theorem dX2_dotsAt_55 : decode cX2_dotsAt 55 = .ok (.getfield 40, 3) := by decide +kernel
theorem dX2_dotsAt_58 : decode cX2_dotsAt 58 = .ok (.iload_n 3, 1) := by decide +kernel
theorem dX2_dotsAt_59 : decode cX2_dotsAt 59 = .ok (.laload, 1) := by decide +kernel
theorem dX2_dotsAt_60 : decode cX2_dotsAt 60 = .ok (.goto 4, 3) := by decide +kernel
theorem dX2_dotsAt_63 : decode cX2_dotsAt 63 = .ok (.lconst 0, 1) := by decide +kernel
theorem dX2_dotsAt_64 : decode cX2_dotsAt 64 = .ok (.lreturn, 1) := by decide +kernel
theorem dX3_init_0 : decode cX3_init 0 = .ok (.aload_n 0, 1) := by decide +kernel
theorem dX3_init_1 : decode cX3_init 1 = .ok (.invokespecial 1, 3) := by decide +kernel
theorem dX3_init_4 : decode cX3_init 4 = .ok (.aload_n 0, 1) := by decide +kernel
theorem dX3_init_5 : decode cX3_init 5 = .ok (.new 7, 3) := by decide +kernel
theorem dX3_init_8 : decode cX3_init 8 = .ok (.dup, 1) := by decide +kernel
theorem dX3_init_9 : decode cX3_init 9 = .ok (.invokespecial 9, 3) := by decide +kernel
theorem dX3_init_12 : decode cX3_init 12 = .ok (.putfield 10, 3) := by decide +kernel
theorem dX3_init_15 : decode cX3_init 15 = .ok (.aload_n 0, 1) := by decide +kernel
theorem dX3_init_16 : decode cX3_init 16 = .ok (.getstatic 16, 3) := by decide +kernel
theorem dX3_init_19 : decode cX3_init 19 = .ok (.invokevirtual 20, 3) := by decide +kernel
theorem dX3_init_22 : decode cX3_init 22 = .ok (.checkcast 21, 3) := by decide +kernel
theorem dX3_init_25 : decode cX3_init 25 = .ok (.putfield 25, 3) := by decide +kernel
theorem dX3_init_28 : decode cX3_init 28 = .ok (.aload_n 0, 1) := by decide +kernel
theorem dX3_init_29 : decode cX3_init 29 = .ok (.iconst 2, 1) := by decide +kernel
theorem dX3_init_30 : decode cX3_init 30 = .ok (.anewarray 28, 3) := by decide +kernel
theorem dX3_init_33 : decode cX3_init 33 = .ok (.dup, 1) := by decide +kernel
theorem dX3_init_34 : decode cX3_init 34 = .ok (.iconst 0, 1) := by decide +kernel
theorem dX3_init_35 : decode cX3_init 35 = .ok (.new 28, 3) := by decide +kernel
theorem dX3_init_38 : decode cX3_init 38 = .ok (.dup, 1) := by decide +kernel
theorem dX3_init_39 : decode cX3_init 39 = .ok (.invokespecial 30, 3) := by decide +kernel
theorem dX3_init_42 : decode cX3_init 42 = .ok (.aastore, 1) := by decide +kernel
theorem dX3_init_43 : decode cX3_init 43 = .ok (.dup, 1) := by decide +kernel
theorem dX3_init_44 : decode cX3_init 44 = .ok (.iconst 1, 1) := by decide +kernel
theorem dX3_init_45 : decode cX3_init 45 = .ok (.new 28, 3) := by decide +kernel
theorem dX3_init_48 : decode cX3_init 48 = .ok (.dup, 1) := by decide +kernel
theorem dX3_init_49 : decode cX3_init 49 = .ok (.invokespecial 30, 3) := by decide +kernel
theorem dX3_init_52 : decode cX3_init 52 = .ok (.aastore, 1) := by decide +kernel
theorem dX3_init_53 : decode cX3_init 53 = .ok (.putfield 31, 3) := by decide +kernel
theorem dX3_init_56 : decode cX3_init 56 = .ok (.aload_n 0, 1) := by decide +kernel
theorem dX3_init_57 : decode cX3_init 57 = .ok (.iconst 0, 1) := by decide +kernel
theorem dX3_init_58 : decode cX3_init 58 = .ok (.putfield 35, 3) := by decide +kernel
theorem dX3_init_61 : decode cX3_init 61 = .ok (.aload_n 0, 1) := by decide +kernel
theorem dX3_init_62 : decode cX3_init 62 = .ok (.iconst 0, 1) := by decide +kernel
theorem dX3_init_63 : decode cX3_init 63 = .ok (.putfield 39, 3) := by decide +kernel
theorem dX3_init_66 : decode cX3_init 66 = .ok (.aload_n 0, 1) := by decide +kernel
theorem dX3_init_67 : decode cX3_init 67 = .ok (.aconst_null, 1) := by decide +kernel
theorem dX3_init_68 : decode cX3_init 68 = .ok (.putfield 42, 3) := by decide +kernel
theorem dX3_init_71 : decode cX3_init 71 = .ok (.return_, 1) := by decide +kernel
theorem dX3_hand_0 : decode cX3_hand 0 = .ok (.iload_n 2, 1) := by decide +kernel
theorem dX3_hand_1 : decode cX3_hand 1 = .ok (.iconst 0, 1) := by decide +kernel
theorem dX3_hand_2 : decode cX3_hand 2 = .ok (.iload_n 1, 1) := by decide +kernel
theorem dX3_hand_3 : decode cX3_hand 3 = .ok (.ifCond .eq 9, 3) := by decide +kernel
theorem dX3_hand_6 : decode cX3_hand 6 = .ok (.sipush 255, 3) := by decide +kernel
theorem dX3_hand_9 : decode cX3_hand 9 = .ok (.goto 6, 3) := by decide +kernel
theorem dX3_hand_12 : decode cX3_hand 12 = .ok (.sipush 32767, 3) := by decide +kernel
theorem dX3_hand_15 : decode cX3_hand 15 = .ok (.invokestatic 46, 3) := by decide +kernel
theorem dX3_hand_18 : decode cX3_hand 18 = .ok (.ifCond .ne 5, 3) := by decide +kernel
theorem dX3_hand_21 : decode cX3_hand 21 = .ok (.iconst 0, 1) := by decide +kernel
theorem dX3_hand_22 : decode cX3_hand 22 = .ok (.ireturn, 1) := by decide +kernel
theorem dX3_hand_23 : decode cX3_hand 23 = .ok (.iload_n 1, 1) := by decide +kernel
theorem dX3_hand_24 : decode cX3_hand 24 = .ok (.ifCond .eq 11, 3) := by decide +kernel
theorem dX3_hand_27 : decode cX3_hand 27 = .ok (.aload_n 0, 1) := by decide +kernel
theorem dX3_hand_28 : decode cX3_hand 28 = .ok (.iload_n 2, 1) := by decide +kernel
theorem dX3_hand_29 : decode cX3_hand 29 = .ok (.putfield 39, 3) := by decide +kernel
theorem dX3_hand_32 : decode cX3_hand 32 = .ok (.goto 8, 3) := by decide +kernel
theorem dX3_hand_35 : decode cX3_hand 35 = .ok (.aload_n 0, 1) := by decide +kernel
theorem dX3_hand_36 : decode cX3_hand 36 = .ok (.iload_n 2, 1) := by decide +kernel
theorem dX3_hand_37 : decode cX3_hand 37 = .ok (.putfield 35, 3) := by decide +kernel
theorem dX3_hand_40 : decode cX3_hand 40 = .ok (.aload_n 0, 1) := by decide +kernel
theorem dX3_hand_41 : decode cX3_hand 41 = .ok (.aconst_null, 1) := by decide +kernel
theorem dX3_hand_42 : decode cX3_hand 42 = .ok (.putfield 42, 3) := by decide +kernel
theorem dX3_hand_45 : decode cX3_hand 45 = .ok (.iconst 1, 1) := by decide +kernel
theorem dX3_hand_46 : decode cX3_hand 46 = .ok (.ireturn, 1) := by decide +kernel
theorem dX3_attribute_0 : decode cX3_attribute 0 = .ok (.iload_n 3, 1) := by decide +kernel
theorem dX3_attribute_1 : decode cX3_attribute 1 = .ok (.invokestatic 50, 3) := by decide +kernel
theorem dX3_attribute_4 : decode cX3_attribute 4 = .ok (.ifCond .eq 21, 3) := by decide +kernel
theorem dX3_attribute_7 : decode cX3_attribute 7 = .ok (.iload 4, 2) := by decide +kernel
theorem dX3_attribute_9 : decode cX3_attribute 9 = .ok (.getstatic 54, 3) := by decide +kernel
theorem dX3_attribute_12 : decode cX3_attribute 12 = .ok (.iload_n 3, 1) := by decide +kernel
theorem dX3_attribute_13 : decode cX3_attribute 13 = .ok (.iaload, 1) := by decide +kernel
theorem dX3_attribute_14 : decode cX3_attribute 14 = .ok (.getstatic 57, 3) := by decide +kernel
theorem dX3_attribute_17 : decode cX3_attribute 17 = .ok (.iload_n 3, 1) := by decide +kernel
theorem dX3_attribute_18 : decode cX3_attribute 18 = .ok (.iaload, 1) := by decide +kernel
theorem dX3_attribute_19 : decode cX3_attribute 19 = .ok (.invokestatic 46, 3) := by decide +kernel
theorem dX3_attribute_22 : decode cX3_attribute 22 = .ok (.ifCond .ne 5, 3) := by decide +kernel
theorem dX3_attribute_25 : decode cX3_attribute 25 = .ok (.iconst 0, 1) := by decide +kernel
theorem dX3_attribute_26 : decode cX3_attribute 26 = .ok (.ireturn, 1) := by decide +kernel
theorem dX3_attribute_27 : decode cX3_attribute 27 = .ok (.iload_n 1, 1) := by decide +kernel
theorem dX3_attribute_28 : decode cX3_attribute 28 = .ok (.ifCond .ne 13, 3) := by decide +kernel
theorem dX3_attribute_31 : decode cX3_attribute 31 = .ok (.aload_n 0, 1) := by decide +kernel
theorem dX3_attribute_32 : decode cX3_attribute 32 = .ok (.getfield 25, 3) := by decide +kernel
theorem dX3_attribute_35 : decode cX3_attribute 35 = .ok (.iload_n 3, 1) := by decide +kernel
theorem dX3_attribute_36 : decode cX3_attribute 36 = .ok (.iload 4, 2) := by decide +kernel
theorem dX3_attribute_38 : decode cX3_attribute 38 = .ok (.iastore, 1) := by decide +kernel
theorem dX3_attribute_39 : decode cX3_attribute 39 = .ok (.iconst 1, 1) := by decide +kernel
theorem dX3_attribute_40 : decode cX3_attribute 40 = .ok (.ireturn, 1) := by decide +kernel
theorem dX3_attribute_41 : decode cX3_attribute 41 = .ok (.iload_n 2, 1) := by decide +kernel
theorem dX3_attribute_42 : decode cX3_attribute 42 = .ok (.invokestatic 60, 3) := by decide +kernel
theorem dX3_attribute_45 : decode cX3_attribute 45 = .ok (.ifCond .ne 5, 3) := by decide +kernel
theorem dX3_attribute_48 : decode cX3_attribute 48 = .ok (.iconst 0, 1) := by decide +kernel
theorem dX3_attribute_49 : decode cX3_attribute 49 = .ok (.ireturn, 1) := by decide +kernel
theorem dX3_attribute_50 : decode cX3_attribute 50 = .ok (.aload_n 0, 1) := by decide +kernel
theorem dX3_attribute_51 : decode cX3_attribute 51 = .ok (.getfield 31, 3) := by decide +kernel
theorem dX3_attribute_54 : decode cX3_attribute 54 = .ok (.iload_n 2, 1) := by decide +kernel
theorem dX3_attribute_55 : decode cX3_attribute 55 = .ok (.aaload, 1) := by decide +kernel
theorem dX3_attribute_56 : decode cX3_attribute 56 = .ok (.getfield 63, 3) := by decide +kernel
theorem dX3_attribute_59 : decode cX3_attribute 59 = .ok (.iload_n 3, 1) := by decide +kernel
theorem dX3_attribute_60 : decode cX3_attribute 60 = .ok (.iload 4, 2) := by decide +kernel
theorem dX3_attribute_62 : decode cX3_attribute 62 = .ok (.iastore, 1) := by decide +kernel
theorem dX3_attribute_63 : decode cX3_attribute 63 = .ok (.aload_n 0, 1) := by decide +kernel
theorem dX3_attribute_64 : decode cX3_attribute 64 = .ok (.getfield 31, 3) := by decide +kernel
theorem dX3_attribute_67 : decode cX3_attribute 67 = .ok (.iload_n 2, 1) := by decide +kernel
theorem dX3_attribute_68 : decode cX3_attribute 68 = .ok (.aaload, 1) := by decide +kernel
theorem dX3_attribute_69 : decode cX3_attribute 69 = .ok (.iconst (-1), 1) := by decide +kernel
theorem dX3_attribute_70 : decode cX3_attribute 70 = .ok (.putfield 66, 3) := by decide +kernel
theorem dX3_attribute_73 : decode cX3_attribute 73 = .ok (.iconst 1, 1) := by decide +kernel
theorem dX3_attribute_74 : decode cX3_attribute 74 = .ok (.ireturn, 1) := by decide +kernel
theorem dX3_header_0 : decode cX3_header 0 = .ok (.aload_n 0, 1) := by decide +kernel
theorem dX3_header_1 : decode cX3_header 1 = .ok (.aload_n 0, 1) := by decide +kernel
theorem dX3_header_2 : decode cX3_header 2 = .ok (.getfield 35, 3) := by decide +kernel
theorem dX3_header_5 : decode cX3_header 5 = .ok (.invokevirtual 69, 3) := by decide +kernel
theorem dX3_header_8 : decode cX3_header 8 = .ok (.istore_n 1, 1) := by decide +kernel
theorem dX3_header_9 : decode cX3_header 9 = .ok (.iload_n 1, 1) := by decide +kernel
theorem dX3_header_10 : decode cX3_header 10 = .ok (.iconst (-1), 1) := by decide +kernel
theorem dX3_header_11 : decode cX3_header 11 = .ok (.if_icmp .ne 25, 3) := by decide +kernel
theorem dX3_header_14 : decode cX3_header 14 = .ok (.aload_n 0, 1) := by decide +kernel
theorem dX3_header_15 : decode cX3_header 15 = .ok (.getfield 10, 3) := by decide +kernel
theorem dX3_header_18 : decode cX3_header 18 = .ok (.invokevirtual 73, 3) := by decide +kernel
theorem dX3_header_21 : decode cX3_header 21 = .ok (.bipush 32, 2) := by decide +kernel
theorem dX3_header_23 : decode cX3_header 23 = .ok (.if_icmp .lt 13, 3) := by decide +kernel
theorem dX3_header_26 : decode cX3_header 26 = .ok (.new 77, 3) := by decide +kernel
theorem dX3_header_29 : decode cX3_header 29 = .ok (.dup, 1) := by decide +kernel
theorem dX3_header_30 : decode cX3_header 30 = .ok (.ldc 79, 2) := by decide +kernel
theorem dX3_header_32 : decode cX3_header 32 = .ok (.invokespecial 81, 3) := by decide +kernel
theorem dX3_header_35 : decode cX3_header 35 = .ok (.athrow, 1) := by decide +kernel
theorem dX3_header_36 : decode cX3_header 36 = .ok (.aload_n 0, 1) := by decide +kernel
theorem dX3_header_37 : decode cX3_header 37 = .ok (.iload_n 1, 1) := by decide +kernel
theorem dX3_header_38 : decode cX3_header 38 = .ok (.invokevirtual 84, 3) := by decide +kernel
theorem dX3_header_41 : decode cX3_header 41 = .ok (.pop, 1) := by decide +kernel
theorem dX3_header_42 : decode cX3_header 42 = .ok (.aload_n 0, 1) := by decide +kernel
theorem dX3_header_43 : decode cX3_header 43 = .ok (.getfield 10, 3) := by decide +kernel
theorem dX3_header_46 : decode cX3_header 46 = .ok (.new 87, 3) := by decide +kernel
theorem dX3_header_49 : decode cX3_header 49 = .ok (.dup, 1) := by decide +kernel
theorem dX3_header_50 : decode cX3_header 50 = .ok (.aload_n 0, 1) := by decide +kernel
theorem dX3_header_51 : decode cX3_header 51 = .ok (.getfield 35, 3) := by decide +kernel
theorem dX3_header_54 : decode cX3_header 54 = .ok (.aload_n 0, 1) := by decide +kernel
theorem dX3_header_55 : decode cX3_header 55 = .ok (.getfield 25, 3) := by decide +kernel
theorem dX3_header_58 : decode cX3_header 58 = .ok (.invokevirtual 20, 3) := by decide +kernel
theorem dX3_header_61 : decode cX3_header 61 = .ok (.checkcast 21, 3) := by decide +kernel
theorem dX3_header_64 : decode cX3_header 64 = .ok (.invokespecial 89, 3) := by decide +kernel
theorem dX3_header_67 : decode cX3_header 67 = .ok (.invokevirtual 92, 3) := by decide +kernel
theorem dX3_header_70 : decode cX3_header 70 = .ok (.pop, 1) := by decide +kernel
theorem dX3_header_71 : decode cX3_header 71 = .ok (.aload_n 0, 1) := by decide +kernel
theorem dX3_header_72 : decode cX3_header 72 = .ok (.aconst_null, 1) := by decide +kernel
theorem dX3_header_73 : decode cX3_header 73 = .ok (.putfield 42, 3) := by decide +kernel
theorem dX3_header_76 : decode cX3_header 76 = .ok (.aload_n 0, 1) := by decide +kernel
theorem dX3_header_77 : decode cX3_header 77 = .ok (.getfield 10, 3) := by decide +kernel
theorem dX3_header_80 : decode cX3_header 80 = .ok (.invokevirtual 73, 3) := by decide +kernel
theorem dX3_header_83 : decode cX3_header 83 = .ok (.ireturn, 1) := by decide +kernel
theorem dX3_glyph_0 : decode cX3_glyph 0 = .ok (.aload_n 0, 1) := by decide +kernel
theorem dX3_glyph_1 : decode cX3_glyph 1 = .ok (.aload_n 0, 1) := by decide +kernel
theorem dX3_glyph_2 : decode cX3_glyph 2 = .ok (.getfield 35, 3) := by decide +kernel
theorem dX3_glyph_5 : decode cX3_glyph 5 = .ok (.invokevirtual 69, 3) := by decide +kernel
theorem dX3_glyph_8 : decode cX3_glyph 8 = .ok (.iconst (-1), 1) := by decide +kernel
theorem dX3_glyph_9 : decode cX3_glyph 9 = .ok (.if_icmp .ne 13, 3) := by decide +kernel
theorem dX3_glyph_12 : decode cX3_glyph 12 = .ok (.new 77, 3) := by decide +kernel
theorem dX3_glyph_15 : decode cX3_glyph 15 = .ok (.dup, 1) := by decide +kernel
theorem dX3_glyph_16 : decode cX3_glyph 16 = .ok (.ldc 96, 2) := by decide +kernel
theorem dX3_glyph_18 : decode cX3_glyph 18 = .ok (.invokespecial 81, 3) := by decide +kernel
theorem dX3_glyph_21 : decode cX3_glyph 21 = .ok (.athrow, 1) := by decide +kernel
theorem dX3_glyph_22 : decode cX3_glyph 22 = .ok (.iload_n 1, 1) := by decide +kernel
theorem dX3_glyph_23 : decode cX3_glyph 23 = .ok (.sipush (-16384), 3) := by decide +kernel
theorem dX3_glyph_26 : decode cX3_glyph 26 = .ok (.sipush 16383, 3) := by decide +kernel
theorem dX3_glyph_29 : decode cX3_glyph 29 = .ok (.invokestatic 46, 3) := by decide +kernel
theorem dX3_glyph_32 : decode cX3_glyph 32 = .ok (.ifCond .eq 51, 3) := by decide +kernel
theorem dX3_glyph_35 : decode cX3_glyph 35 = .ok (.iload_n 2, 1) := by decide +kernel
theorem dX3_glyph_36 : decode cX3_glyph 36 = .ok (.sipush (-16384), 3) := by decide +kernel
theorem dX3_glyph_39 : decode cX3_glyph 39 = .ok (.sipush 16383, 3) := by decide +kernel
theorem dX3_glyph_42 : decode cX3_glyph 42 = .ok (.invokestatic 46, 3) := by decide +kernel
theorem dX3_glyph_45 : decode cX3_glyph 45 = .ok (.ifCond .eq 38, 3) := by decide +kernel
theorem dX3_glyph_48 : decode cX3_glyph 48 = .ok (.iload_n 3, 1) := by decide +kernel
theorem dX3_glyph_49 : decode cX3_glyph 49 = .ok (.iconst 0, 1) := by decide +kernel
theorem dX3_glyph_50 : decode cX3_glyph 50 = .ok (.sipush 128, 3) := by decide +kernel
theorem dX3_glyph_53 : decode cX3_glyph 53 = .ok (.invokestatic 46, 3) := by decide +kernel
theorem dX3_glyph_56 : decode cX3_glyph 56 = .ok (.ifCond .eq 27, 3) := by decide +kernel
theorem dX3_glyph_59 : decode cX3_glyph 59 = .ok (.iload 4, 2) := by decide +kernel
theorem dX3_glyph_61 : decode cX3_glyph 61 = .ok (.iconst 0, 1) := by decide +kernel
theorem dX3_glyph_62 : decode cX3_glyph 62 = .ok (.sipush 128, 3) := by decide +kernel
theorem dX3_glyph_65 : decode cX3_glyph 65 = .ok (.invokestatic 46, 3) := by decide +kernel
theorem dX3_glyph_68 : decode cX3_glyph 68 = .ok (.ifCond .eq 15, 3) := by decide +kernel
theorem dX3_glyph_71 : decode cX3_glyph 71 = .ok (.iload 5, 2) := by decide +kernel
theorem dX3_glyph_73 : decode cX3_glyph 73 = .ok (.iconst 0, 1) := by decide +kernel
theorem dX3_glyph_74 : decode cX3_glyph 74 = .ok (.sipush 32767, 3) := by decide +kernel
theorem dX3_glyph_77 : decode cX3_glyph 77 = .ok (.invokestatic 46, 3) := by decide +kernel
theorem dX3_glyph_80 : decode cX3_glyph 80 = .ok (.ifCond .ne 13, 3) := by decide +kernel
theorem dX3_glyph_83 : decode cX3_glyph 83 = .ok (.new 98, 3) := by decide +kernel
theorem dX3_glyph_86 : decode cX3_glyph 86 = .ok (.dup, 1) := by decide +kernel
theorem dX3_glyph_87 : decode cX3_glyph 87 = .ok (.ldc 100, 2) := by decide +kernel
theorem dX3_glyph_89 : decode cX3_glyph 89 = .ok (.invokespecial 102, 3) := by decide +kernel
theorem dX3_glyph_92 : decode cX3_glyph 92 = .ok (.athrow, 1) := by decide +kernel
theorem dX3_glyph_93 : decode cX3_glyph 93 = .ok (.aload_n 0, 1) := by decide +kernel
theorem dX3_glyph_94 : decode cX3_glyph 94 = .ok (.new 103, 3) := by decide +kernel
theorem dX3_glyph_97 : decode cX3_glyph 97 = .ok (.dup, 1) := by decide +kernel
theorem dX3_glyph_98 : decode cX3_glyph 98 = .ok (.iload_n 1, 1) := by decide +kernel
theorem dX3_glyph_99 : decode cX3_glyph 99 = .ok (.iload_n 2, 1) := by decide +kernel
theorem dX3_glyph_100 : decode cX3_glyph 100 = .ok (.iload_n 3, 1) := by decide +kernel
theorem dX3_glyph_101 : decode cX3_glyph 101 = .ok (.iload 4, 2) := by decide +kernel
theorem dX3_glyph_103 : decode cX3_glyph 103 = .ok (.iload 5, 2) := by decide +kernel
theorem dX3_glyph_105 : decode cX3_glyph 105 = .ok (.invokespecial 105, 3) := by decide +kernel
theorem dX3_glyph_108 : decode cX3_glyph 108 = .ok (.putfield 42, 3) := by decide +kernel
theorem dX3_glyph_111 : decode cX3_glyph 111 = .ok (.aload_n 0, 1) := by decide +kernel
theorem dX3_glyph_112 : decode cX3_glyph 112 = .ok (.getfield 42, 3) := by decide +kernel
theorem dX3_glyph_115 : decode cX3_glyph 115 = .ok (.invokevirtual 108, 3) := by decide +kernel
theorem dX3_glyph_118 : decode cX3_glyph 118 = .ok (.ireturn, 1) := by decide +kernel
theorem dX3_bytes_0 : decode cX3_bytes 0 = .ok (.aload_n 0, 1) := by decide +kernel
theorem dX3_bytes_1 : decode cX3_bytes 1 = .ok (.getfield 42, 3) := by decide +kernel
theorem dX3_bytes_4 : decode cX3_bytes 4 = .ok (.ifnull 13, 3) := by decide +kernel
theorem dX3_bytes_7 : decode cX3_bytes 7 = .ok (.iload_n 3, 1) := by decide +kernel
theorem dX3_bytes_8 : decode cX3_bytes 8 = .ok (.iconst 1, 1) := by decide +kernel
theorem dX3_bytes_9 : decode cX3_bytes 9 = .ok (.bipush 8, 2) := by decide +kernel
theorem dX3_bytes_11 : decode cX3_bytes 11 = .ok (.invokestatic 46, 3) := by decide +kernel
theorem dX3_bytes_14 : decode cX3_bytes 14 = .ok (.ifCond .ne 5, 3) := by decide +kernel
theorem dX3_bytes_17 : decode cX3_bytes 17 = .ok (.iconst 0, 1) := by decide +kernel
theorem dX3_bytes_18 : decode cX3_bytes 18 = .ok (.ireturn, 1) := by decide +kernel
theorem dX3_bytes_19 : decode cX3_bytes 19 = .ok (.iload_n 3, 1) := by decide +kernel
theorem dX3_bytes_20 : decode cX3_bytes 20 = .ok (.iconst 1, 1) := by decide +kernel
theorem dX3_bytes_21 : decode cX3_bytes 21 = .ok (.isub, 1) := by decide +kernel
theorem dX3_bytes_22 : decode cX3_bytes 22 = .ok (.istore 4, 2) := by decide +kernel
theorem dX3_bytes_24 : decode cX3_bytes 24 = .ok (.iload 4, 2) := by decide +kernel
theorem dX3_bytes_26 : decode cX3_bytes 26 = .ok (.ifCond .lt 28, 3) := by decide +kernel
theorem dX3_bytes_29 : decode cX3_bytes 29 = .ok (.aload_n 0, 1) := by decide +kernel
theorem dX3_bytes_30 : decode cX3_bytes 30 = .ok (.getfield 42, 3) := by decide +kernel
theorem dX3_bytes_33 : decode cX3_bytes 33 = .ok (.lload_n 1, 1) := by decide +kernel
theorem dX3_bytes_34 : decode cX3_bytes 34 = .ok (.bipush 8, 2) := by decide +kernel
theorem dX3_bytes_36 : decode cX3_bytes 36 = .ok (.iload 4, 2) := by decide +kernel
theorem dX3_bytes_38 : decode cX3_bytes 38 = .ok (.imul, 1) := by decide +kernel
theorem dX3_bytes_39 : decode cX3_bytes 39 = .ok (.lushr, 1) := by decide +kernel
theorem dX3_bytes_40 : decode cX3_bytes 40 = .ok (.l2i, 1) := by decide +kernel
theorem dX3_bytes_41 : decode cX3_bytes 41 = .ok (.sipush 255, 3) := by decide +kernel
theorem dX3_bytes_44 : decode cX3_bytes 44 = .ok (.iand, 1) := by decide +kernel
theorem dX3_bytes_45 : decode cX3_bytes 45 = .ok (.invokevirtual 109, 3) := by decide +kernel
theorem dX3_bytes_48 : decode cX3_bytes 48 = .ok (.iinc 4 (-1), 3) := by decide +kernel
theorem dX3_bytes_51 : decode cX3_bytes 51 = .ok (.goto (-27), 3) := by decide +kernel
theorem dX3_bytes_54 : decode cX3_bytes 54 = .ok (.iconst 1, 1) := by decide +kernel
theorem dX3_bytes_55 : decode cX3_bytes 55 = .ok (.ireturn, 1) := by decide +kernel
theorem dX3_load_0 : decode cX3_load 0 = .ok (.aload_n 0, 1) := by decide +kernel
theorem dX3_load_1 : decode cX3_load 1 = .ok (.aload_n 0, 1) := by decide +kernel
theorem dX3_load_2 : decode cX3_load 2 = .ok (.getfield 35, 3) := by decide +kernel
theorem dX3_load_5 : decode cX3_load 5 = .ok (.invokevirtual 113, 3) := by decide +kernel
theorem dX3_load_8 : decode cX3_load 8 = .ok (.astore_n 1, 1) := by decide +kernel
theorem dX3_load_9 : decode cX3_load 9 = .ok (.aload_n 0, 1) := by decide +kernel
theorem dX3_load_10 : decode cX3_load 10 = .ok (.getfield 42, 3) := by decide +kernel
theorem dX3_load_13 : decode cX3_load 13 = .ok (.ifnull 7, 3) := by decide +kernel
theorem dX3_load_16 : decode cX3_load 16 = .ok (.aload_n 1, 1) := by decide +kernel
theorem dX3_load_17 : decode cX3_load 17 = .ok (.ifnonnull 13, 3) := by decide +kernel
theorem dX3_load_20 : decode cX3_load 20 = .ok (.new 77, 3) := by decide +kernel
theorem dX3_load_23 : decode cX3_load 23 = .ok (.dup, 1) := by decide +kernel
theorem dX3_load_24 : decode cX3_load 24 = .ok (.ldc 117, 2) := by decide +kernel
theorem dX3_load_26 : decode cX3_load 26 = .ok (.invokespecial 81, 3) := by decide +kernel
theorem dX3_load_29 : decode cX3_load 29 = .ok (.athrow, 1) := by decide +kernel
theorem dX3_load_30 : decode cX3_load 30 = .ok (.aload_n 0, 1) := by decide +kernel
theorem dX3_load_31 : decode cX3_load 31 = .ok (.getfield 42, 3) := by decide +kernel
theorem dX3_load_34 : decode cX3_load 34 = .ok (.astore_n 2, 1) := by decide +kernel
theorem dX3_load_35 : decode cX3_load 35 = .ok (.aload_n 0, 1) := by decide +kernel
theorem dX3_load_36 : decode cX3_load 36 = .ok (.aconst_null, 1) := by decide +kernel
theorem dX3_load_37 : decode cX3_load 37 = .ok (.putfield 42, 3) := by decide +kernel
theorem dX3_load_40 : decode cX3_load 40 = .ok (.aload_n 0, 1) := by decide +kernel
theorem dX3_load_41 : decode cX3_load 41 = .ok (.aload_n 2, 1) := by decide +kernel
theorem dX3_load_42 : decode cX3_load 42 = .ok (.aload_n 1, 1) := by decide +kernel
theorem dX3_load_43 : decode cX3_load 43 = .ok (.aload_n 0, 1) := by decide +kernel
theorem dX3_load_44 : decode cX3_load 44 = .ok (.getfield 39, 3) := by decide +kernel
theorem dX3_load_47 : decode cX3_load 47 = .ok (.invokevirtual 119, 3) := by decide +kernel
theorem dX3_load_50 : decode cX3_load 50 = .ok (.invokevirtual 123, 3) := by decide +kernel
theorem dX3_load_53 : decode cX3_load 53 = .ok (.ifCond .ne 13, 3) := by decide +kernel
theorem dX3_load_56 : decode cX3_load 56 = .ok (.new 127, 3) := by decide +kernel
theorem dX3_load_59 : decode cX3_load 59 = .ok (.dup, 1) := by decide +kernel
theorem dX3_load_60 : decode cX3_load 60 = .ok (.ldc 129, 2) := by decide +kernel
theorem dX3_load_62 : decode cX3_load 62 = .ok (.invokespecial 131, 3) := by decide +kernel
theorem dX3_load_65 : decode cX3_load 65 = .ok (.athrow, 1) := by decide +kernel
theorem dX3_load_66 : decode cX3_load 66 = .ok (.aload_n 1, 1) := by decide +kernel
theorem dX3_load_67 : decode cX3_load 67 = .ok (.aload_n 0, 1) := by decide +kernel
theorem dX3_load_68 : decode cX3_load 68 = .ok (.getfield 39, 3) := by decide +kernel
theorem dX3_load_71 : decode cX3_load 71 = .ok (.invokevirtual 132, 3) := by decide +kernel
theorem dX3_load_74 : decode cX3_load 74 = .ok (.pop, 1) := by decide +kernel
theorem dX3_load_75 : decode cX3_load 75 = .ok (.aload_n 1, 1) := by decide +kernel
theorem dX3_load_76 : decode cX3_load 76 = .ok (.aload_n 0, 1) := by decide +kernel
theorem dX3_load_77 : decode cX3_load 77 = .ok (.getfield 39, 3) := by decide +kernel
theorem dX3_load_80 : decode cX3_load 80 = .ok (.aload_n 2, 1) := by decide +kernel
theorem dX3_load_81 : decode cX3_load 81 = .ok (.invokevirtual 135, 3) := by decide +kernel
theorem dX3_load_84 : decode cX3_load 84 = .ok (.aload_n 1, 1) := by decide +kernel
theorem dX3_load_85 : decode cX3_load 85 = .ok (.getfield 139, 3) := by decide +kernel
theorem dX3_load_88 : decode cX3_load 88 = .ok (.ireturn, 1) := by decide +kernel
theorem dX3_permanent_0 : decode cX3_permanent 0 = .ok (.aload_n 0, 1) := by decide +kernel
theorem dX3_permanent_1 : decode cX3_permanent 1 = .ok (.aload_n 0, 1) := by decide +kernel
theorem dX3_permanent_2 : decode cX3_permanent 2 = .ok (.getfield 35, 3) := by decide +kernel
theorem dX3_permanent_5 : decode cX3_permanent 5 = .ok (.invokevirtual 113, 3) := by decide +kernel
theorem dX3_permanent_8 : decode cX3_permanent 8 = .ok (.astore_n 2, 1) := by decide +kernel
theorem dX3_permanent_9 : decode cX3_permanent 9 = .ok (.aload_n 2, 1) := by decide +kernel
theorem dX3_permanent_10 : decode cX3_permanent 10 = .ok (.ifnull 11, 3) := by decide +kernel
theorem dX3_permanent_13 : decode cX3_permanent 13 = .ok (.aload_n 2, 1) := by decide +kernel
theorem dX3_permanent_14 : decode cX3_permanent 14 = .ok (.getfield 142, 3) := by decide +kernel
theorem dX3_permanent_17 : decode cX3_permanent 17 = .ok (.iload_n 1, 1) := by decide +kernel
theorem dX3_permanent_18 : decode cX3_permanent 18 = .ok (.if_icmp .ne 5, 3) := by decide +kernel
theorem dX3_permanent_21 : decode cX3_permanent 21 = .ok (.iconst 0, 1) := by decide +kernel
theorem dX3_permanent_22 : decode cX3_permanent 22 = .ok (.ireturn, 1) := by decide +kernel
theorem dX3_permanent_23 : decode cX3_permanent 23 = .ok (.aload_n 2, 1) := by decide +kernel
theorem dX3_permanent_24 : decode cX3_permanent 24 = .ok (.iload_n 1, 1) := by decide +kernel
theorem dX3_permanent_25 : decode cX3_permanent 25 = .ok (.putfield 142, 3) := by decide +kernel
theorem dX3_permanent_28 : decode cX3_permanent 28 = .ok (.iconst 1, 1) := by decide +kernel
theorem dX3_permanent_29 : decode cX3_permanent 29 = .ok (.ireturn, 1) := by decide +kernel
theorem dX3_drop_0 : decode cX3_drop 0 = .ok (.iload_n 1, 1) := by decide +kernel
theorem dX3_drop_1 : decode cX3_drop 1 = .ok (.iconst 0, 1) := by decide +kernel
theorem dX3_drop_2 : decode cX3_drop 2 = .ok (.iconst 3, 1) := by decide +kernel
theorem dX3_drop_3 : decode cX3_drop 3 = .ok (.invokestatic 46, 3) := by decide +kernel
theorem dX3_drop_6 : decode cX3_drop 6 = .ok (.ifCond .ne 13, 3) := by decide +kernel
theorem dX3_drop_9 : decode cX3_drop 9 = .ok (.new 98, 3) := by decide +kernel
theorem dX3_drop_12 : decode cX3_drop 12 = .ok (.dup, 1) := by decide +kernel
theorem dX3_drop_13 : decode cX3_drop 13 = .ok (.ldc 146, 2) := by decide +kernel
theorem dX3_drop_15 : decode cX3_drop 15 = .ok (.invokespecial 102, 3) := by decide +kernel
theorem dX3_drop_18 : decode cX3_drop 18 = .ok (.athrow, 1) := by decide +kernel
theorem dX3_drop_19 : decode cX3_drop 19 = .ok (.aload_n 0, 1) := by decide +kernel
theorem dX3_drop_20 : decode cX3_drop 20 = .ok (.aconst_null, 1) := by decide +kernel
theorem dX3_drop_21 : decode cX3_drop 21 = .ok (.putfield 42, 3) := by decide +kernel
theorem dX3_drop_24 : decode cX3_drop 24 = .ok (.iload_n 1, 1) := by decide +kernel
theorem dX3_drop_25 : decode cX3_drop 25 = .ok (.tableswitch 50 0 2 #[27, 32, 37], 27) := by decide +kernel
theorem dX3_drop_52 : decode cX3_drop 52 = .ok (.aload_n 0, 1) := by decide +kernel
theorem dX3_drop_53 : decode cX3_drop 53 = .ok (.invokevirtual 148, 3) := by decide +kernel
theorem dX3_drop_56 : decode cX3_drop 56 = .ok (.ireturn, 1) := by decide +kernel
theorem dX3_drop_57 : decode cX3_drop 57 = .ok (.aload_n 0, 1) := by decide +kernel
theorem dX3_drop_58 : decode cX3_drop 58 = .ok (.invokevirtual 151, 3) := by decide +kernel
theorem dX3_drop_61 : decode cX3_drop 61 = .ok (.ireturn, 1) := by decide +kernel
theorem dX3_drop_62 : decode cX3_drop 62 = .ok (.aload_n 0, 1) := by decide +kernel
theorem dX3_drop_63 : decode cX3_drop 63 = .ok (.aload_n 0, 1) := by decide +kernel
theorem dX3_drop_64 : decode cX3_drop 64 = .ok (.aload_n 0, 1) := by decide +kernel
theorem dX3_drop_65 : decode cX3_drop 65 = .ok (.getfield 35, 3) := by decide +kernel
theorem dX3_drop_68 : decode cX3_drop 68 = .ok (.invokevirtual 69, 3) := by decide +kernel
theorem dX3_drop_71 : decode cX3_drop 71 = .ok (.invokevirtual 84, 3) := by decide +kernel
theorem dX3_drop_74 : decode cX3_drop 74 = .ok (.ireturn, 1) := by decide +kernel
theorem dX3_drop_75 : decode cX3_drop 75 = .ok (.aload_n 0, 1) := by decide +kernel
theorem dX3_drop_76 : decode cX3_drop 76 = .ok (.invokevirtual 154, 3) := by decide +kernel
theorem dX3_drop_79 : decode cX3_drop 79 = .ok (.ireturn, 1) := by decide +kernel
theorem dX3_pin_0 : decode cX3_pin 0 = .ok (.aload_n 0, 1) := by decide +kernel
theorem dX3_pin_1 : decode cX3_pin 1 = .ok (.iload_n 2, 1) := by decide +kernel
theorem dX3_pin_2 : decode cX3_pin 2 = .ok (.invokevirtual 113, 3) := by decide +kernel
theorem dX3_pin_5 : decode cX3_pin 5 = .ok (.astore_n 3, 1) := by decide +kernel
theorem dX3_pin_6 : decode cX3_pin 6 = .ok (.iload_n 1, 1) := by decide +kernel
theorem dX3_pin_7 : decode cX3_pin 7 = .ok (.invokestatic 60, 3) := by decide +kernel
theorem dX3_pin_10 : decode cX3_pin 10 = .ok (.ifCond .eq 7, 3) := by decide +kernel
theorem dX3_pin_13 : decode cX3_pin 13 = .ok (.aload_n 3, 1) := by decide +kernel
theorem dX3_pin_14 : decode cX3_pin 14 = .ok (.ifnonnull 5, 3) := by decide +kernel
theorem dX3_pin_17 : decode cX3_pin 17 = .ok (.iconst 0, 1) := by decide +kernel
theorem dX3_pin_18 : decode cX3_pin 18 = .ok (.ireturn, 1) := by decide +kernel
theorem dX3_pin_19 : decode cX3_pin 19 = .ok (.aload_n 0, 1) := by decide +kernel
theorem dX3_pin_20 : decode cX3_pin 20 = .ok (.getfield 31, 3) := by decide +kernel
theorem dX3_pin_23 : decode cX3_pin 23 = .ok (.iload_n 1, 1) := by decide +kernel
theorem dX3_pin_24 : decode cX3_pin 24 = .ok (.aaload, 1) := by decide +kernel
theorem dX3_pin_25 : decode cX3_pin 25 = .ok (.iload_n 2, 1) := by decide +kernel
theorem dX3_pin_26 : decode cX3_pin 26 = .ok (.putfield 66, 3) := by decide +kernel
theorem dX3_pin_29 : decode cX3_pin 29 = .ok (.aload_n 3, 1) := by decide +kernel
theorem dX3_pin_30 : decode cX3_pin 30 = .ok (.getfield 157, 3) := by decide +kernel
theorem dX3_pin_33 : decode cX3_pin 33 = .ok (.iconst 0, 1) := by decide +kernel
theorem dX3_pin_34 : decode cX3_pin 34 = .ok (.aload_n 0, 1) := by decide +kernel
theorem dX3_pin_35 : decode cX3_pin 35 = .ok (.getfield 31, 3) := by decide +kernel
theorem dX3_pin_38 : decode cX3_pin 38 = .ok (.iload_n 1, 1) := by decide +kernel
theorem dX3_pin_39 : decode cX3_pin 39 = .ok (.aaload, 1) := by decide +kernel
theorem dX3_pin_40 : decode cX3_pin 40 = .ok (.getfield 63, 3) := by decide +kernel
theorem dX3_pin_43 : decode cX3_pin 43 = .ok (.iconst 0, 1) := by decide +kernel
theorem dX3_pin_44 : decode cX3_pin 44 = .ok (.bipush 7, 2) := by decide +kernel
theorem dX3_pin_46 : decode cX3_pin 46 = .ok (.invokestatic 160, 3) := by decide +kernel
theorem dX3_pin_49 : decode cX3_pin 49 = .ok (.iconst 1, 1) := by decide +kernel
theorem dX3_pin_50 : decode cX3_pin 50 = .ok (.ireturn, 1) := by decide +kernel
theorem dX3_chosen_0 : decode cX3_chosen 0 = .ok (.aload_n 0, 1) := by decide +kernel
theorem dX3_chosen_1 : decode cX3_chosen 1 = .ok (.iload_n 1, 1) := by decide +kernel
theorem dX3_chosen_2 : decode cX3_chosen 2 = .ok (.invokevirtual 166, 3) := by decide +kernel
theorem dX3_chosen_5 : decode cX3_chosen 5 = .ok (.astore_n 2, 1) := by decide +kernel
theorem dX3_chosen_6 : decode cX3_chosen 6 = .ok (.aload_n 2, 1) := by decide +kernel
theorem dX3_chosen_7 : decode cX3_chosen 7 = .ok (.ifnonnull 7, 3) := by decide +kernel
theorem dX3_chosen_10 : decode cX3_chosen 10 = .ok (.iconst (-1), 1) := by decide +kernel
theorem dX3_chosen_11 : decode cX3_chosen 11 = .ok (.goto 7, 3) := by decide +kernel
theorem dX3_chosen_14 : decode cX3_chosen 14 = .ok (.aload_n 2, 1) := by decide +kernel
theorem dX3_chosen_15 : decode cX3_chosen 15 = .ok (.getfield 169, 3) := by decide +kernel
theorem dX3_chosen_18 : decode cX3_chosen 18 = .ok (.ireturn, 1) := by decide +kernel
theorem dX3_font_0 : decode cX3_font 0 = .ok (.iload_n 1, 1) := by decide +kernel
theorem dX3_font_1 : decode cX3_font 1 = .ok (.iconst 0, 1) := by decide +kernel
theorem dX3_font_2 : decode cX3_font 2 = .ok (.aload_n 0, 1) := by decide +kernel
theorem dX3_font_3 : decode cX3_font 3 = .ok (.getfield 10, 3) := by decide +kernel
theorem dX3_font_6 : decode cX3_font 6 = .ok (.invokevirtual 73, 3) := by decide +kernel
theorem dX3_font_9 : decode cX3_font 9 = .ok (.iconst 1, 1) := by decide +kernel
theorem dX3_font_10 : decode cX3_font 10 = .ok (.isub, 1) := by decide +kernel
theorem dX3_font_11 : decode cX3_font 11 = .ok (.invokestatic 46, 3) := by decide +kernel
theorem dX3_font_14 : decode cX3_font 14 = .ok (.ifCond .eq 13, 3) := by decide +kernel
theorem dX3_font_17 : decode cX3_font 17 = .ok (.iload_n 2, 1) := by decide +kernel
theorem dX3_font_18 : decode cX3_font 18 = .ok (.iconst 0, 1) := by decide +kernel
theorem dX3_font_19 : decode cX3_font 19 = .ok (.bipush 9, 2) := by decide +kernel
theorem dX3_font_21 : decode cX3_font 21 = .ok (.invokestatic 46, 3) := by decide +kernel
theorem dX3_font_24 : decode cX3_font 24 = .ok (.ifCond .ne 13, 3) := by decide +kernel
theorem dX3_font_27 : decode cX3_font 27 = .ok (.new 172, 3) := by decide +kernel
theorem dX3_font_30 : decode cX3_font 30 = .ok (.dup, 1) := by decide +kernel
theorem dX3_font_31 : decode cX3_font 31 = .ok (.ldc 174, 2) := by decide +kernel
theorem dX3_font_33 : decode cX3_font 33 = .ok (.invokespecial 176, 3) := by decide +kernel
theorem dX3_font_36 : decode cX3_font 36 = .ok (.athrow, 1) := by decide +kernel
theorem dX3_font_37 : decode cX3_font 37 = .ok (.aload_n 0, 1) := by decide +kernel
theorem dX3_font_38 : decode cX3_font 38 = .ok (.getfield 10, 3) := by decide +kernel
theorem dX3_font_41 : decode cX3_font 41 = .ok (.iload_n 1, 1) := by decide +kernel
theorem dX3_font_42 : decode cX3_font 42 = .ok (.invokevirtual 177, 3) := by decide +kernel
theorem dX3_font_45 : decode cX3_font 45 = .ok (.checkcast 87, 3) := by decide +kernel
theorem dX3_font_48 : decode cX3_font 48 = .ok (.astore_n 3, 1) := by decide +kernel
theorem dX3_font_49 : decode cX3_font 49 = .ok (.iload_n 2, 1) := by decide +kernel
theorem dX3_font_50 : decode cX3_font 50 = .ok (.tableswitch 49 7 9 #[26, 31, 44], 26) := by decide +kernel
theorem dX3_font_76 : decode cX3_font 76 = .ok (.aload_n 3, 1) := by decide +kernel
theorem dX3_font_77 : decode cX3_font 77 = .ok (.getfield 169, 3) := by decide +kernel
theorem dX3_font_80 : decode cX3_font 80 = .ok (.ireturn, 1) := by decide +kernel
theorem dX3_font_81 : decode cX3_font 81 = .ok (.aload_n 3, 1) := by decide +kernel
theorem dX3_font_82 : decode cX3_font 82 = .ok (.getfield 142, 3) := by decide +kernel
theorem dX3_font_85 : decode cX3_font 85 = .ok (.ifCond .eq 7, 3) := by decide +kernel
theorem dX3_font_88 : decode cX3_font 88 = .ok (.iconst 1, 1) := by decide +kernel
theorem dX3_font_89 : decode cX3_font 89 = .ok (.goto 4, 3) := by decide +kernel
theorem dX3_font_92 : decode cX3_font 92 = .ok (.iconst 0, 1) := by decide +kernel
theorem dX3_font_93 : decode cX3_font 93 = .ok (.ireturn, 1) := by decide +kernel
theorem dX3_font_94 : decode cX3_font 94 = .ok (.aload_n 3, 1) := by decide +kernel
theorem dX3_font_95 : decode cX3_font 95 = .ok (.getfield 139, 3) := by decide +kernel
theorem dX3_font_98 : decode cX3_font 98 = .ok (.ireturn, 1) := by decide +kernel
theorem dX3_font_99 : decode cX3_font 99 = .ok (.aload_n 3, 1) := by decide +kernel
theorem dX3_font_100 : decode cX3_font 100 = .ok (.getfield 157, 3) := by decide +kernel
theorem dX3_font_103 : decode cX3_font 103 = .ok (.iload_n 2, 1) := by decide +kernel
theorem dX3_font_104 : decode cX3_font 104 = .ok (.iaload, 1) := by decide +kernel
theorem dX3_font_105 : decode cX3_font 105 = .ok (.ireturn, 1) := by decide +kernel
theorem dX3_of_0 : decode cX3_of 0 = .ok (.iload_n 1, 1) := by decide +kernel
theorem dX3_of_1 : decode cX3_of 1 = .ok (.invokestatic 60, 3) := by decide +kernel
theorem dX3_of_4 : decode cX3_of 4 = .ok (.ifCond .eq 12, 3) := by decide +kernel
theorem dX3_of_7 : decode cX3_of 7 = .ok (.iload_n 3, 1) := by decide +kernel
theorem dX3_of_8 : decode cX3_of 8 = .ok (.iconst 0, 1) := by decide +kernel
theorem dX3_of_9 : decode cX3_of 9 = .ok (.iconst 5, 1) := by decide +kernel
theorem dX3_of_10 : decode cX3_of 10 = .ok (.invokestatic 46, 3) := by decide +kernel
theorem dX3_of_13 : decode cX3_of 13 = .ok (.ifCond .ne 13, 3) := by decide +kernel
theorem dX3_of_16 : decode cX3_of 16 = .ok (.new 98, 3) := by decide +kernel
theorem dX3_of_19 : decode cX3_of 19 = .ok (.dup, 1) := by decide +kernel
theorem dX3_of_20 : decode cX3_of 20 = .ok (.ldc 181, 2) := by decide +kernel
theorem dX3_of_22 : decode cX3_of 22 = .ok (.invokespecial 102, 3) := by decide +kernel
theorem dX3_of_25 : decode cX3_of 25 = .ok (.athrow, 1) := by decide +kernel
theorem dX3_of_26 : decode cX3_of 26 = .ok (.aload_n 0, 1) := by decide +kernel
theorem dX3_of_27 : decode cX3_of 27 = .ok (.iload_n 1, 1) := by decide +kernel
theorem dX3_of_28 : decode cX3_of 28 = .ok (.iload_n 2, 1) := by decide +kernel
theorem dX3_of_29 : decode cX3_of 29 = .ok (.invokevirtual 183, 3) := by decide +kernel
theorem dX3_of_32 : decode cX3_of 32 = .ok (.astore 4, 2) := by decide +kernel
theorem dX3_of_34 : decode cX3_of 34 = .ok (.aload 4, 2) := by decide +kernel
theorem dX3_of_36 : decode cX3_of 36 = .ok (.ifnonnull 13, 3) := by decide +kernel
theorem dX3_of_39 : decode cX3_of 39 = .ok (.new 77, 3) := by decide +kernel
theorem dX3_of_42 : decode cX3_of 42 = .ok (.dup, 1) := by decide +kernel
theorem dX3_of_43 : decode cX3_of 43 = .ok (.ldc 187, 2) := by decide +kernel
theorem dX3_of_45 : decode cX3_of 45 = .ok (.invokespecial 81, 3) := by decide +kernel
theorem dX3_of_48 : decode cX3_of 48 = .ok (.athrow, 1) := by decide +kernel
theorem dX3_of_49 : decode cX3_of 49 = .ok (.iload_n 3, 1) := by decide +kernel
theorem dX3_of_50 : decode cX3_of 50 = .ok (.tableswitch 64 0 4 #[34, 40, 46, 52, 58], 34) := by decide +kernel
theorem dX3_of_84 : decode cX3_of 84 = .ok (.aload 4, 2) := by decide +kernel
theorem dX3_of_86 : decode cX3_of 86 = .ok (.getfield 189, 3) := by decide +kernel
theorem dX3_of_89 : decode cX3_of 89 = .ok (.ireturn, 1) := by decide +kernel
theorem dX3_of_90 : decode cX3_of 90 = .ok (.aload 4, 2) := by decide +kernel
theorem dX3_of_92 : decode cX3_of 92 = .ok (.getfield 192, 3) := by decide +kernel
theorem dX3_of_95 : decode cX3_of 95 = .ok (.ireturn, 1) := by decide +kernel
theorem dX3_of_96 : decode cX3_of 96 = .ok (.aload 4, 2) := by decide +kernel
theorem dX3_of_98 : decode cX3_of 98 = .ok (.getfield 195, 3) := by decide +kernel
theorem dX3_of_101 : decode cX3_of 101 = .ok (.ireturn, 1) := by decide +kernel
theorem dX3_of_102 : decode cX3_of 102 = .ok (.aload 4, 2) := by decide +kernel
theorem dX3_of_104 : decode cX3_of 104 = .ok (.getfield 198, 3) := by decide +kernel
theorem dX3_of_107 : decode cX3_of 107 = .ok (.ireturn, 1) := by decide +kernel
theorem dX3_of_108 : decode cX3_of 108 = .ok (.aload 4, 2) := by decide +kernel
theorem dX3_of_110 : decode cX3_of 110 = .ok (.getfield 201, 3) := by decide +kernel
theorem dX3_of_113 : decode cX3_of 113 = .ok (.ireturn, 1) := by decide +kernel
theorem dX3_of_114 : decode cX3_of 114 = .ok (.aload 4, 2) := by decide +kernel
theorem dX3_of_116 : decode cX3_of 116 = .ok (.invokevirtual 204, 3) := by decide +kernel
theorem dX3_of_119 : decode cX3_of 119 = .ok (.ireturn, 1) := by decide +kernel
theorem dX3_row_0 : decode cX3_row 0 = .ok (.aload_n 0, 1) := by decide +kernel
theorem dX3_row_1 : decode cX3_row 1 = .ok (.iload_n 1, 1) := by decide +kernel
theorem dX3_row_2 : decode cX3_row 2 = .ok (.iload_n 2, 1) := by decide +kernel
theorem dX3_row_3 : decode cX3_row 3 = .ok (.invokevirtual 183, 3) := by decide +kernel
theorem dX3_row_6 : decode cX3_row 6 = .ok (.astore 5, 2) := by decide +kernel
theorem dX3_row_8 : decode cX3_row 8 = .ok (.aload 5, 2) := by decide +kernel
theorem dX3_row_10 : decode cX3_row 10 = .ok (.ifnonnull 7, 3) := by decide +kernel
theorem dX3_row_13 : decode cX3_row 13 = .ok (.lconst 0, 1) := by decide +kernel
theorem dX3_row_14 : decode cX3_row 14 = .ok (.goto 11, 3) := by decide +kernel
theorem dX3_row_17 : decode cX3_row 17 = .ok (.aload 5, 2) := by decide +kernel
theorem dX3_row_19 : decode cX3_row 19 = .ok (.iload_n 3, 1) := by decide +kernel
theorem dX3_row_20 : decode cX3_row 20 = .ok (.iload 4, 2) := by decide +kernel
theorem dX3_row_22 : decode cX3_row 22 = .ok (.invokevirtual 207, 3) := by decide +kernel
theorem dX3_row_25 : decode cX3_row 25 = .ok (.lreturn, 1) := by decide +kernel
theorem dX3_wish_0 : decode cX3_wish 0 = .ok (.iload_n 1, 1) := by decide +kernel
theorem dX3_wish_1 : decode cX3_wish 1 = .ok (.iconst 2, 1) := by decide +kernel
theorem dX3_wish_2 : decode cX3_wish 2 = .ok (.if_icmp .ne 7, 3) := by decide +kernel
theorem dX3_wish_5 : decode cX3_wish 5 = .ok (.iconst 1, 1) := by decide +kernel
theorem dX3_wish_6 : decode cX3_wish 6 = .ok (.goto 4, 3) := by decide +kernel
theorem dX3_wish_9 : decode cX3_wish 9 = .ok (.iconst 0, 1) := by decide +kernel
theorem dX3_wish_10 : decode cX3_wish 10 = .ok (.istore_n 3, 1) := by decide +kernel
theorem dX3_wish_11 : decode cX3_wish 11 = .ok (.iload_n 3, 1) := by decide +kernel
theorem dX3_wish_12 : decode cX3_wish 12 = .ok (.ifCond .ne 10, 3) := by decide +kernel
theorem dX3_wish_15 : decode cX3_wish 15 = .ok (.iload_n 1, 1) := by decide +kernel
theorem dX3_wish_16 : decode cX3_wish 16 = .ok (.invokestatic 60, 3) := by decide +kernel
theorem dX3_wish_19 : decode cX3_wish 19 = .ok (.ifCond .eq 13, 3) := by decide +kernel
theorem dX3_wish_22 : decode cX3_wish 22 = .ok (.iload_n 2, 1) := by decide +kernel
theorem dX3_wish_23 : decode cX3_wish 23 = .ok (.iconst 0, 1) := by decide +kernel
theorem dX3_wish_24 : decode cX3_wish 24 = .ok (.bipush 7, 2) := by decide +kernel
theorem dX3_wish_26 : decode cX3_wish 26 = .ok (.invokestatic 46, 3) := by decide +kernel
theorem dX3_wish_29 : decode cX3_wish 29 = .ok (.ifCond .ne 13, 3) := by decide +kernel
theorem dX3_wish_32 : decode cX3_wish 32 = .ok (.new 172, 3) := by decide +kernel
theorem dX3_wish_35 : decode cX3_wish 35 = .ok (.dup, 1) := by decide +kernel
theorem dX3_wish_36 : decode cX3_wish 36 = .ok (.ldc 211, 2) := by decide +kernel
theorem dX3_wish_38 : decode cX3_wish 38 = .ok (.invokespecial 176, 3) := by decide +kernel
theorem dX3_wish_41 : decode cX3_wish 41 = .ok (.athrow, 1) := by decide +kernel
theorem dX3_wish_42 : decode cX3_wish 42 = .ok (.iload_n 2, 1) := by decide +kernel
theorem dX3_wish_43 : decode cX3_wish 43 = .ok (.bipush 7, 2) := by decide +kernel
theorem dX3_wish_45 : decode cX3_wish 45 = .ok (.if_icmp .ne 24, 3) := by decide +kernel
theorem dX3_wish_48 : decode cX3_wish 48 = .ok (.iload_n 3, 1) := by decide +kernel
theorem dX3_wish_49 : decode cX3_wish 49 = .ok (.ifCond .eq 10, 3) := by decide +kernel
theorem dX3_wish_52 : decode cX3_wish 52 = .ok (.aload_n 0, 1) := by decide +kernel
theorem dX3_wish_53 : decode cX3_wish 53 = .ok (.getfield 35, 3) := by decide +kernel
theorem dX3_wish_56 : decode cX3_wish 56 = .ok (.goto 12, 3) := by decide +kernel
theorem dX3_wish_59 : decode cX3_wish 59 = .ok (.aload_n 0, 1) := by decide +kernel
theorem dX3_wish_60 : decode cX3_wish 60 = .ok (.getfield 31, 3) := by decide +kernel
theorem dX3_wish_63 : decode cX3_wish 63 = .ok (.iload_n 1, 1) := by decide +kernel
theorem dX3_wish_64 : decode cX3_wish 64 = .ok (.aaload, 1) := by decide +kernel
theorem dX3_wish_65 : decode cX3_wish 65 = .ok (.getfield 66, 3) := by decide +kernel
theorem dX3_wish_68 : decode cX3_wish 68 = .ok (.ireturn, 1) := by decide +kernel
theorem dX3_wish_69 : decode cX3_wish 69 = .ok (.iload_n 3, 1) := by decide +kernel
theorem dX3_wish_70 : decode cX3_wish 70 = .ok (.ifCond .eq 12, 3) := by decide +kernel
theorem dX3_wish_73 : decode cX3_wish 73 = .ok (.aload_n 0, 1) := by decide +kernel
theorem dX3_wish_74 : decode cX3_wish 74 = .ok (.getfield 25, 3) := by decide +kernel
theorem dX3_wish_77 : decode cX3_wish 77 = .ok (.iload_n 2, 1) := by decide +kernel
theorem dX3_wish_78 : decode cX3_wish 78 = .ok (.iaload, 1) := by decide +kernel
theorem dX3_wish_79 : decode cX3_wish 79 = .ok (.goto 14, 3) := by decide +kernel
theorem dX3_wish_82 : decode cX3_wish 82 = .ok (.aload_n 0, 1) := by decide +kernel
theorem dX3_wish_83 : decode cX3_wish 83 = .ok (.getfield 31, 3) := by decide +kernel
theorem dX3_wish_86 : decode cX3_wish 86 = .ok (.iload_n 1, 1) := by decide +kernel
theorem dX3_wish_87 : decode cX3_wish 87 = .ok (.aaload, 1) := by decide +kernel
theorem dX3_wish_88 : decode cX3_wish 88 = .ok (.getfield 63, 3) := by decide +kernel
theorem dX3_wish_91 : decode cX3_wish 91 = .ok (.iload_n 2, 1) := by decide +kernel
theorem dX3_wish_92 : decode cX3_wish 92 = .ok (.iaload, 1) := by decide +kernel
theorem dX3_wish_93 : decode cX3_wish 93 = .ok (.ireturn, 1) := by decide +kernel
theorem dX3_look_0 : decode cX3_look 0 = .ok (.iload_n 1, 1) := by decide +kernel
theorem dX3_look_1 : decode cX3_look 1 = .ok (.tableswitch 86 0 5 #[39, 47, 52, 57, 62, 67], 39) := by decide +kernel
theorem dX3_look_40 : decode cX3_look 40 = .ok (.aload_n 0, 1) := by decide +kernel
theorem dX3_look_41 : decode cX3_look 41 = .ok (.getfield 10, 3) := by decide +kernel
theorem dX3_look_44 : decode cX3_look 44 = .ok (.invokevirtual 73, 3) := by decide +kernel
theorem dX3_look_47 : decode cX3_look 47 = .ok (.ireturn, 1) := by decide +kernel
theorem dX3_look_48 : decode cX3_look 48 = .ok (.aload_n 0, 1) := by decide +kernel
theorem dX3_look_49 : decode cX3_look 49 = .ok (.invokevirtual 213, 3) := by decide +kernel
theorem dX3_look_52 : decode cX3_look 52 = .ok (.ireturn, 1) := by decide +kernel
theorem dX3_look_53 : decode cX3_look 53 = .ok (.aload_n 0, 1) := by decide +kernel
theorem dX3_look_54 : decode cX3_look 54 = .ok (.invokevirtual 216, 3) := by decide +kernel
theorem dX3_look_57 : decode cX3_look 57 = .ok (.ireturn, 1) := by decide +kernel
theorem dX3_look_58 : decode cX3_look 58 = .ok (.aload_n 0, 1) := by decide +kernel
theorem dX3_look_59 : decode cX3_look 59 = .ok (.getfield 35, 3) := by decide +kernel
theorem dX3_look_62 : decode cX3_look 62 = .ok (.ireturn, 1) := by decide +kernel
theorem dX3_look_63 : decode cX3_look 63 = .ok (.aload_n 0, 1) := by decide +kernel
theorem dX3_look_64 : decode cX3_look 64 = .ok (.getfield 39, 3) := by decide +kernel
theorem dX3_look_67 : decode cX3_look 67 = .ok (.ireturn, 1) := by decide +kernel
theorem dX3_look_68 : decode cX3_look 68 = .ok (.aload_n 0, 1) := by decide +kernel
theorem dX3_look_69 : decode cX3_look 69 = .ok (.getfield 42, 3) := by decide +kernel
theorem dX3_look_72 : decode cX3_look 72 = .ok (.ifnonnull 7, 3) := by decide +kernel
theorem dX3_look_75 : decode cX3_look 75 = .ok (.iconst (-1), 1) := by decide +kernel
theorem dX3_look_76 : decode cX3_look 76 = .ok (.goto 10, 3) := by decide +kernel
theorem dX3_look_79 : decode cX3_look 79 = .ok (.aload_n 0, 1) := by decide +kernel
theorem dX3_look_80 : decode cX3_look 80 = .ok (.getfield 42, 3) := by decide +kernel
theorem dX3_look_83 : decode cX3_look 83 = .ok (.invokevirtual 219, 3) := by decide +kernel
theorem dX3_look_86 : decode cX3_look 86 = .ok (.ireturn, 1) := by decide +kernel
theorem dX3_look_87 : decode cX3_look 87 = .ok (.iconst (-1), 1) := by decide +kernel
theorem dX3_look_88 : decode cX3_look 88 = .ok (.ireturn, 1) := by decide +kernel
theorem dX3_within_0 : decode cX3_within 0 = .ok (.iload_n 0, 1) := by decide +kernel
theorem dX3_within_1 : decode cX3_within 1 = .ok (.iload_n 1, 1) := by decide +kernel
theorem dX3_within_2 : decode cX3_within 2 = .ok (.if_icmp .lt 12, 3) := by decide +kernel
theorem dX3_within_5 : decode cX3_within 5 = .ok (.iload_n 0, 1) := by decide +kernel
theorem dX3_within_6 : decode cX3_within 6 = .ok (.iload_n 2, 1) := by decide +kernel
theorem dX3_within_7 : decode cX3_within 7 = .ok (.if_icmp .gt 7, 3) := by decide +kernel
theorem dX3_within_10 : decode cX3_within 10 = .ok (.iconst 1, 1) := by decide +kernel
theorem dX3_within_11 : decode cX3_within 11 = .ok (.goto 4, 3) := by decide +kernel
theorem dX3_within_14 : decode cX3_within 14 = .ok (.iconst 0, 1) := by decide +kernel
theorem dX3_within_15 : decode cX3_within 15 = .ok (.ireturn, 1) := by decide +kernel
theorem dX3_isAttribute_0 : decode cX3_isAttribute 0 = .ok (.iload_n 0, 1) := by decide +kernel
theorem dX3_isAttribute_1 : decode cX3_isAttribute 1 = .ok (.iconst 0, 1) := by decide +kernel
theorem dX3_isAttribute_2 : decode cX3_isAttribute 2 = .ok (.bipush 6, 2) := by decide +kernel
theorem dX3_isAttribute_4 : decode cX3_isAttribute 4 = .ok (.invokestatic 46, 3) := by decide +kernel
theorem dX3_isAttribute_7 : decode cX3_isAttribute 7 = .ok (.ireturn, 1) := by decide +kernel
theorem dX3_isAtHand_0 : decode cX3_isAtHand 0 = .ok (.iload_n 0, 1) := by decide +kernel
theorem dX3_isAtHand_1 : decode cX3_isAtHand 1 = .ok (.iconst 0, 1) := by decide +kernel
theorem dX3_isAtHand_2 : decode cX3_isAtHand 2 = .ok (.iconst 1, 1) := by decide +kernel
theorem dX3_isAtHand_3 : decode cX3_isAtHand 3 = .ok (.invokestatic 46, 3) := by decide +kernel
theorem dX3_isAtHand_6 : decode cX3_isAtHand 6 = .ok (.ireturn, 1) := by decide +kernel
theorem dX3_placeOf_0 : decode cX3_placeOf 0 = .ok (.iconst 0, 1) := by decide +kernel
theorem dX3_placeOf_1 : decode cX3_placeOf 1 = .ok (.istore_n 2, 1) := by decide +kernel
theorem dX3_placeOf_2 : decode cX3_placeOf 2 = .ok (.iload_n 2, 1) := by decide +kernel
theorem dX3_placeOf_3 : decode cX3_placeOf 3 = .ok (.aload_n 0, 1) := by decide +kernel
theorem dX3_placeOf_4 : decode cX3_placeOf 4 = .ok (.getfield 10, 3) := by decide +kernel
theorem dX3_placeOf_7 : decode cX3_placeOf 7 = .ok (.invokevirtual 73, 3) := by decide +kernel
theorem dX3_placeOf_10 : decode cX3_placeOf 10 = .ok (.if_icmp .ge 29, 3) := by decide +kernel
theorem dX3_placeOf_13 : decode cX3_placeOf 13 = .ok (.aload_n 0, 1) := by decide +kernel
theorem dX3_placeOf_14 : decode cX3_placeOf 14 = .ok (.getfield 10, 3) := by decide +kernel
theorem dX3_placeOf_17 : decode cX3_placeOf 17 = .ok (.iload_n 2, 1) := by decide +kernel
theorem dX3_placeOf_18 : decode cX3_placeOf 18 = .ok (.invokevirtual 177, 3) := by decide +kernel
theorem dX3_placeOf_21 : decode cX3_placeOf 21 = .ok (.checkcast 87, 3) := by decide +kernel
theorem dX3_placeOf_24 : decode cX3_placeOf 24 = .ok (.getfield 169, 3) := by decide +kernel
theorem dX3_placeOf_27 : decode cX3_placeOf 27 = .ok (.iload_n 1, 1) := by decide +kernel
theorem dX3_placeOf_28 : decode cX3_placeOf 28 = .ok (.if_icmp .ne 5, 3) := by decide +kernel
theorem dX3_placeOf_31 : decode cX3_placeOf 31 = .ok (.iload_n 2, 1) := by decide +kernel
theorem dX3_placeOf_32 : decode cX3_placeOf 32 = .ok (.ireturn, 1) := by decide +kernel
theorem dX3_placeOf_33 : decode cX3_placeOf 33 = .ok (.iinc 2 1, 3) := by decide +kernel
theorem dX3_placeOf_36 : decode cX3_placeOf 36 = .ok (.goto (-34), 3) := by decide +kernel
theorem dX3_placeOf_39 : decode cX3_placeOf 39 = .ok (.iconst (-1), 1) := by decide +kernel
theorem dX3_placeOf_40 : decode cX3_placeOf 40 = .ok (.ireturn, 1) := by decide +kernel
theorem dX3_fontWith_0 : decode cX3_fontWith 0 = .ok (.aload_n 0, 1) := by decide +kernel
theorem dX3_fontWith_1 : decode cX3_fontWith 1 = .ok (.iload_n 1, 1) := by decide +kernel
theorem dX3_fontWith_2 : decode cX3_fontWith 2 = .ok (.invokevirtual 69, 3) := by decide +kernel
theorem dX3_fontWith_5 : decode cX3_fontWith 5 = .ok (.istore_n 2, 1) := by decide +kernel
theorem dX3_fontWith_6 : decode cX3_fontWith 6 = .ok (.iload_n 2, 1) := by decide +kernel
theorem dX3_fontWith_7 : decode cX3_fontWith 7 = .ok (.iconst (-1), 1) := by decide +kernel
theorem dX3_fontWith_8 : decode cX3_fontWith 8 = .ok (.if_icmp .ne 7, 3) := by decide +kernel
theorem dX3_fontWith_11 : decode cX3_fontWith 11 = .ok (.aconst_null, 1) := by decide +kernel
theorem dX3_fontWith_12 : decode cX3_fontWith 12 = .ok (.goto 14, 3) := by decide +kernel
theorem dX3_fontWith_15 : decode cX3_fontWith 15 = .ok (.aload_n 0, 1) := by decide +kernel
theorem dX3_fontWith_16 : decode cX3_fontWith 16 = .ok (.getfield 10, 3) := by decide +kernel
theorem dX3_fontWith_19 : decode cX3_fontWith 19 = .ok (.iload_n 2, 1) := by decide +kernel
theorem dX3_fontWith_20 : decode cX3_fontWith 20 = .ok (.invokevirtual 177, 3) := by decide +kernel
theorem dX3_fontWith_23 : decode cX3_fontWith 23 = .ok (.checkcast 87, 3) := by decide +kernel
theorem dX3_fontWith_26 : decode cX3_fontWith 26 = .ok (.areturn, 1) := by decide +kernel
theorem dX3_takeOut_0 : decode cX3_takeOut 0 = .ok (.iload_n 1, 1) := by decide +kernel
theorem dX3_takeOut_1 : decode cX3_takeOut 1 = .ok (.iconst 0, 1) := by decide +kernel
theorem dX3_takeOut_2 : decode cX3_takeOut 2 = .ok (.aload_n 0, 1) := by decide +kernel
theorem dX3_takeOut_3 : decode cX3_takeOut 3 = .ok (.getfield 10, 3) := by decide +kernel
theorem dX3_takeOut_6 : decode cX3_takeOut 6 = .ok (.invokevirtual 73, 3) := by decide +kernel
theorem dX3_takeOut_9 : decode cX3_takeOut 9 = .ok (.iconst 1, 1) := by decide +kernel
theorem dX3_takeOut_10 : decode cX3_takeOut 10 = .ok (.isub, 1) := by decide +kernel
theorem dX3_takeOut_11 : decode cX3_takeOut 11 = .ok (.invokestatic 46, 3) := by decide +kernel
theorem dX3_takeOut_14 : decode cX3_takeOut 14 = .ok (.ifCond .ne 5, 3) := by decide +kernel
theorem dX3_takeOut_17 : decode cX3_takeOut 17 = .ok (.iconst 0, 1) := by decide +kernel
theorem dX3_takeOut_18 : decode cX3_takeOut 18 = .ok (.ireturn, 1) := by decide +kernel
theorem dX3_takeOut_19 : decode cX3_takeOut 19 = .ok (.aload_n 0, 1) := by decide +kernel
theorem dX3_takeOut_20 : decode cX3_takeOut 20 = .ok (.getfield 10, 3) := by decide +kernel
theorem dX3_takeOut_23 : decode cX3_takeOut 23 = .ok (.iload_n 1, 1) := by decide +kernel
theorem dX3_takeOut_24 : decode cX3_takeOut 24 = .ok (.invokevirtual 222, 3) := by decide +kernel
theorem dX3_takeOut_27 : decode cX3_takeOut 27 = .ok (.pop, 1) := by decide +kernel
theorem dX3_takeOut_28 : decode cX3_takeOut 28 = .ok (.iconst 1, 1) := by decide +kernel
theorem dX3_takeOut_29 : decode cX3_takeOut 29 = .ok (.ireturn, 1) := by decide +kernel
theorem dX3_dropAll_0 : decode cX3_dropAll 0 = .ok (.aload_n 0, 1) := by decide +kernel
theorem dX3_dropAll_1 : decode cX3_dropAll 1 = .ok (.getfield 10, 3) := by decide +kernel
theorem dX3_dropAll_4 : decode cX3_dropAll 4 = .ok (.invokevirtual 73, 3) := by decide +kernel
theorem dX3_dropAll_7 : decode cX3_dropAll 7 = .ok (.istore_n 1, 1) := by decide +kernel
theorem dX3_dropAll_8 : decode cX3_dropAll 8 = .ok (.aload_n 0, 1) := by decide +kernel
theorem dX3_dropAll_9 : decode cX3_dropAll 9 = .ok (.getfield 10, 3) := by decide +kernel
theorem dX3_dropAll_12 : decode cX3_dropAll 12 = .ok (.invokevirtual 224, 3) := by decide +kernel
theorem dX3_dropAll_15 : decode cX3_dropAll 15 = .ok (.iload_n 1, 1) := by decide +kernel
theorem dX3_dropAll_16 : decode cX3_dropAll 16 = .ok (.ireturn, 1) := by decide +kernel
theorem dX3_dropPassing_0 : decode cX3_dropPassing 0 = .ok (.iconst 0, 1) := by decide +kernel
theorem dX3_dropPassing_1 : decode cX3_dropPassing 1 = .ok (.istore_n 1, 1) := by decide +kernel
theorem dX3_dropPassing_2 : decode cX3_dropPassing 2 = .ok (.aload_n 0, 1) := by decide +kernel
theorem dX3_dropPassing_3 : decode cX3_dropPassing 3 = .ok (.getfield 10, 3) := by decide +kernel
theorem dX3_dropPassing_6 : decode cX3_dropPassing 6 = .ok (.invokevirtual 73, 3) := by decide +kernel
theorem dX3_dropPassing_9 : decode cX3_dropPassing 9 = .ok (.iconst 1, 1) := by decide +kernel
theorem dX3_dropPassing_10 : decode cX3_dropPassing 10 = .ok (.isub, 1) := by decide +kernel
theorem dX3_dropPassing_11 : decode cX3_dropPassing 11 = .ok (.istore_n 2, 1) := by decide +kernel
theorem dX3_dropPassing_12 : decode cX3_dropPassing 12 = .ok (.iload_n 2, 1) := by decide +kernel
theorem dX3_dropPassing_13 : decode cX3_dropPassing 13 = .ok (.ifCond .lt 34, 3) := by decide +kernel
theorem dX3_dropPassing_16 : decode cX3_dropPassing 16 = .ok (.aload_n 0, 1) := by decide +kernel
theorem dX3_dropPassing_17 : decode cX3_dropPassing 17 = .ok (.getfield 10, 3) := by decide +kernel
theorem dX3_dropPassing_20 : decode cX3_dropPassing 20 = .ok (.iload_n 2, 1) := by decide +kernel
theorem dX3_dropPassing_21 : decode cX3_dropPassing 21 = .ok (.invokevirtual 177, 3) := by decide +kernel
theorem dX3_dropPassing_24 : decode cX3_dropPassing 24 = .ok (.checkcast 87, 3) := by decide +kernel
theorem dX3_dropPassing_27 : decode cX3_dropPassing 27 = .ok (.getfield 142, 3) := by decide +kernel
theorem dX3_dropPassing_30 : decode cX3_dropPassing 30 = .ok (.ifCond .ne 11, 3) := by decide +kernel
theorem dX3_dropPassing_33 : decode cX3_dropPassing 33 = .ok (.iload_n 1, 1) := by decide +kernel
theorem dX3_dropPassing_34 : decode cX3_dropPassing 34 = .ok (.aload_n 0, 1) := by decide +kernel
theorem dX3_dropPassing_35 : decode cX3_dropPassing 35 = .ok (.iload_n 2, 1) := by decide +kernel
theorem dX3_dropPassing_36 : decode cX3_dropPassing 36 = .ok (.invokevirtual 84, 3) := by decide +kernel
theorem dX3_dropPassing_39 : decode cX3_dropPassing 39 = .ok (.iadd, 1) := by decide +kernel
theorem dX3_dropPassing_40 : decode cX3_dropPassing 40 = .ok (.istore_n 1, 1) := by decide +kernel
theorem dX3_dropPassing_41 : decode cX3_dropPassing 41 = .ok (.iinc 2 (-1), 3) := by decide +kernel
theorem dX3_dropPassing_44 : decode cX3_dropPassing 44 = .ok (.goto (-32), 3) := by decide +kernel
theorem dX3_dropPassing_47 : decode cX3_dropPassing 47 = .ok (.iload_n 1, 1) := by decide +kernel
theorem dX3_dropPassing_48 : decode cX3_dropPassing 48 = .ok (.ireturn, 1) := by decide +kernel
theorem dX3_dropGlyph_0 : decode cX3_dropGlyph 0 = .ok (.aload_n 0, 1) := by decide +kernel
theorem dX3_dropGlyph_1 : decode cX3_dropGlyph 1 = .ok (.aload_n 0, 1) := by decide +kernel
theorem dX3_dropGlyph_2 : decode cX3_dropGlyph 2 = .ok (.getfield 35, 3) := by decide +kernel
theorem dX3_dropGlyph_5 : decode cX3_dropGlyph 5 = .ok (.invokevirtual 113, 3) := by decide +kernel
theorem dX3_dropGlyph_8 : decode cX3_dropGlyph 8 = .ok (.astore_n 1, 1) := by decide +kernel
theorem dX3_dropGlyph_9 : decode cX3_dropGlyph 9 = .ok (.aload_n 1, 1) := by decide +kernel
theorem dX3_dropGlyph_10 : decode cX3_dropGlyph 10 = .ok (.ifnull 18, 3) := by decide +kernel
theorem dX3_dropGlyph_13 : decode cX3_dropGlyph 13 = .ok (.aload_n 1, 1) := by decide +kernel
theorem dX3_dropGlyph_14 : decode cX3_dropGlyph 14 = .ok (.aload_n 0, 1) := by decide +kernel
theorem dX3_dropGlyph_15 : decode cX3_dropGlyph 15 = .ok (.getfield 39, 3) := by decide +kernel
theorem dX3_dropGlyph_18 : decode cX3_dropGlyph 18 = .ok (.invokevirtual 132, 3) := by decide +kernel
theorem dX3_dropGlyph_21 : decode cX3_dropGlyph 21 = .ok (.ifCond .eq 7, 3) := by decide +kernel
theorem dX3_dropGlyph_24 : decode cX3_dropGlyph 24 = .ok (.iconst 1, 1) := by decide +kernel
theorem dX3_dropGlyph_25 : decode cX3_dropGlyph 25 = .ok (.goto 4, 3) := by decide +kernel
theorem dX3_dropGlyph_28 : decode cX3_dropGlyph 28 = .ok (.iconst 0, 1) := by decide +kernel
theorem dX3_dropGlyph_29 : decode cX3_dropGlyph 29 = .ok (.ireturn, 1) := by decide +kernel
theorem dX3_glyphsInAll_0 : decode cX3_glyphsInAll 0 = .ok (.iconst 0, 1) := by decide +kernel
theorem dX3_glyphsInAll_1 : decode cX3_glyphsInAll 1 = .ok (.istore_n 1, 1) := by decide +kernel
theorem dX3_glyphsInAll_2 : decode cX3_glyphsInAll 2 = .ok (.iconst 0, 1) := by decide +kernel
theorem dX3_glyphsInAll_3 : decode cX3_glyphsInAll 3 = .ok (.istore_n 2, 1) := by decide +kernel
theorem dX3_glyphsInAll_4 : decode cX3_glyphsInAll 4 = .ok (.iload_n 2, 1) := by decide +kernel
theorem dX3_glyphsInAll_5 : decode cX3_glyphsInAll 5 = .ok (.aload_n 0, 1) := by decide +kernel
theorem dX3_glyphsInAll_6 : decode cX3_glyphsInAll 6 = .ok (.getfield 10, 3) := by decide +kernel
theorem dX3_glyphsInAll_9 : decode cX3_glyphsInAll 9 = .ok (.invokevirtual 73, 3) := by decide +kernel
theorem dX3_glyphsInAll_12 : decode cX3_glyphsInAll 12 = .ok (.if_icmp .ge 26, 3) := by decide +kernel
theorem dX3_glyphsInAll_15 : decode cX3_glyphsInAll 15 = .ok (.iload_n 1, 1) := by decide +kernel
theorem dX3_glyphsInAll_16 : decode cX3_glyphsInAll 16 = .ok (.aload_n 0, 1) := by decide +kernel
theorem dX3_glyphsInAll_17 : decode cX3_glyphsInAll 17 = .ok (.getfield 10, 3) := by decide +kernel
theorem dX3_glyphsInAll_20 : decode cX3_glyphsInAll 20 = .ok (.iload_n 2, 1) := by decide +kernel
theorem dX3_glyphsInAll_21 : decode cX3_glyphsInAll 21 = .ok (.invokevirtual 177, 3) := by decide +kernel
theorem dX3_glyphsInAll_24 : decode cX3_glyphsInAll 24 = .ok (.checkcast 87, 3) := by decide +kernel
theorem dX3_glyphsInAll_27 : decode cX3_glyphsInAll 27 = .ok (.getfield 139, 3) := by decide +kernel
theorem dX3_glyphsInAll_30 : decode cX3_glyphsInAll 30 = .ok (.iadd, 1) := by decide +kernel
theorem dX3_glyphsInAll_31 : decode cX3_glyphsInAll 31 = .ok (.istore_n 1, 1) := by decide +kernel
theorem dX3_glyphsInAll_32 : decode cX3_glyphsInAll 32 = .ok (.iinc 2 1, 3) := by decide +kernel
theorem dX3_glyphsInAll_35 : decode cX3_glyphsInAll 35 = .ok (.goto (-31), 3) := by decide +kernel
theorem dX3_glyphsInAll_38 : decode cX3_glyphsInAll 38 = .ok (.iload_n 1, 1) := by decide +kernel
theorem dX3_glyphsInAll_39 : decode cX3_glyphsInAll 39 = .ok (.ireturn, 1) := by decide +kernel
theorem dX3_bytesInAll_0 : decode cX3_bytesInAll 0 = .ok (.iconst 0, 1) := by decide +kernel
theorem dX3_bytesInAll_1 : decode cX3_bytesInAll 1 = .ok (.istore_n 1, 1) := by decide +kernel
theorem dX3_bytesInAll_2 : decode cX3_bytesInAll 2 = .ok (.iconst 0, 1) := by decide +kernel
theorem dX3_bytesInAll_3 : decode cX3_bytesInAll 3 = .ok (.istore_n 2, 1) := by decide +kernel
theorem dX3_bytesInAll_4 : decode cX3_bytesInAll 4 = .ok (.iload_n 2, 1) := by decide +kernel
theorem dX3_bytesInAll_5 : decode cX3_bytesInAll 5 = .ok (.aload_n 0, 1) := by decide +kernel
theorem dX3_bytesInAll_6 : decode cX3_bytesInAll 6 = .ok (.getfield 10, 3) := by decide +kernel
theorem dX3_bytesInAll_9 : decode cX3_bytesInAll 9 = .ok (.invokevirtual 73, 3) := by decide +kernel
theorem dX3_bytesInAll_12 : decode cX3_bytesInAll 12 = .ok (.if_icmp .ge 26, 3) := by decide +kernel
theorem dX3_bytesInAll_15 : decode cX3_bytesInAll 15 = .ok (.iload_n 1, 1) := by decide +kernel
theorem dX3_bytesInAll_16 : decode cX3_bytesInAll 16 = .ok (.aload_n 0, 1) := by decide +kernel
theorem dX3_bytesInAll_17 : decode cX3_bytesInAll 17 = .ok (.getfield 10, 3) := by decide +kernel
theorem dX3_bytesInAll_20 : decode cX3_bytesInAll 20 = .ok (.iload_n 2, 1) := by decide +kernel
theorem dX3_bytesInAll_21 : decode cX3_bytesInAll 21 = .ok (.invokevirtual 177, 3) := by decide +kernel
theorem dX3_bytesInAll_24 : decode cX3_bytesInAll 24 = .ok (.checkcast 87, 3) := by decide +kernel
theorem dX3_bytesInAll_27 : decode cX3_bytesInAll 27 = .ok (.getfield 227, 3) := by decide +kernel
theorem dX3_bytesInAll_30 : decode cX3_bytesInAll 30 = .ok (.iadd, 1) := by decide +kernel
theorem dX3_bytesInAll_31 : decode cX3_bytesInAll 31 = .ok (.istore_n 1, 1) := by decide +kernel
theorem dX3_bytesInAll_32 : decode cX3_bytesInAll 32 = .ok (.iinc 2 1, 3) := by decide +kernel
theorem dX3_bytesInAll_35 : decode cX3_bytesInAll 35 = .ok (.goto (-31), 3) := by decide +kernel
theorem dX3_bytesInAll_38 : decode cX3_bytesInAll 38 = .ok (.iload_n 1, 1) := by decide +kernel
theorem dX3_bytesInAll_39 : decode cX3_bytesInAll 39 = .ok (.ireturn, 1) := by decide +kernel
theorem dX3_hasRoomFor_0 : decode cX3_hasRoomFor 0 = .ok (.aload_n 0, 1) := by decide +kernel
theorem dX3_hasRoomFor_1 : decode cX3_hasRoomFor 1 = .ok (.invokevirtual 213, 3) := by decide +kernel
theorem dX3_hasRoomFor_4 : decode cX3_hasRoomFor 4 = .ok (.iconst 1, 1) := by decide +kernel
theorem dX3_hasRoomFor_5 : decode cX3_hasRoomFor 5 = .ok (.iadd, 1) := by decide +kernel
theorem dX3_hasRoomFor_6 : decode cX3_hasRoomFor 6 = .ok (.aload_n 2, 1) := by decide +kernel
theorem dX3_hasRoomFor_7 : decode cX3_hasRoomFor 7 = .ok (.ifnonnull 7, 3) := by decide +kernel
theorem dX3_hasRoomFor_10 : decode cX3_hasRoomFor 10 = .ok (.iconst 0, 1) := by decide +kernel
theorem dX3_hasRoomFor_11 : decode cX3_hasRoomFor 11 = .ok (.goto 4, 3) := by decide +kernel
theorem dX3_hasRoomFor_14 : decode cX3_hasRoomFor 14 = .ok (.iconst 1, 1) := by decide +kernel
theorem dX3_hasRoomFor_15 : decode cX3_hasRoomFor 15 = .ok (.isub, 1) := by decide +kernel
theorem dX3_hasRoomFor_16 : decode cX3_hasRoomFor 16 = .ok (.istore_n 3, 1) := by decide +kernel
theorem dX3_hasRoomFor_17 : decode cX3_hasRoomFor 17 = .ok (.aload_n 0, 1) := by decide +kernel
theorem dX3_hasRoomFor_18 : decode cX3_hasRoomFor 18 = .ok (.invokevirtual 216, 3) := by decide +kernel
theorem dX3_hasRoomFor_21 : decode cX3_hasRoomFor 21 = .ok (.aload_n 1, 1) := by decide +kernel
theorem dX3_hasRoomFor_22 : decode cX3_hasRoomFor 22 = .ok (.invokevirtual 108, 3) := by decide +kernel
theorem dX3_hasRoomFor_25 : decode cX3_hasRoomFor 25 = .ok (.iadd, 1) := by decide +kernel
theorem dX3_hasRoomFor_26 : decode cX3_hasRoomFor 26 = .ok (.aload_n 2, 1) := by decide +kernel
theorem dX3_hasRoomFor_27 : decode cX3_hasRoomFor 27 = .ok (.ifnonnull 7, 3) := by decide +kernel
theorem dX3_hasRoomFor_30 : decode cX3_hasRoomFor 30 = .ok (.iconst 0, 1) := by decide +kernel
theorem dX3_hasRoomFor_31 : decode cX3_hasRoomFor 31 = .ok (.goto 7, 3) := by decide +kernel
theorem dX3_hasRoomFor_34 : decode cX3_hasRoomFor 34 = .ok (.aload_n 2, 1) := by decide +kernel
theorem dX3_hasRoomFor_35 : decode cX3_hasRoomFor 35 = .ok (.invokevirtual 108, 3) := by decide +kernel
theorem dX3_hasRoomFor_38 : decode cX3_hasRoomFor 38 = .ok (.isub, 1) := by decide +kernel
theorem dX3_hasRoomFor_39 : decode cX3_hasRoomFor 39 = .ok (.istore 4, 2) := by decide +kernel
theorem dX3_hasRoomFor_41 : decode cX3_hasRoomFor 41 = .ok (.iload_n 3, 1) := by decide +kernel
theorem dX3_hasRoomFor_42 : decode cX3_hasRoomFor 42 = .ok (.sipush 256, 3) := by decide +kernel
theorem dX3_hasRoomFor_45 : decode cX3_hasRoomFor 45 = .ok (.if_icmp .gt 15, 3) := by decide +kernel
theorem dX3_hasRoomFor_48 : decode cX3_hasRoomFor 48 = .ok (.iload 4, 2) := by decide +kernel
theorem dX3_hasRoomFor_50 : decode cX3_hasRoomFor 50 = .ok (.sipush 16384, 3) := by decide +kernel
theorem dX3_hasRoomFor_53 : decode cX3_hasRoomFor 53 = .ok (.if_icmp .gt 7, 3) := by decide +kernel
theorem dX3_hasRoomFor_56 : decode cX3_hasRoomFor 56 = .ok (.iconst 1, 1) := by decide +kernel
theorem dX3_hasRoomFor_57 : decode cX3_hasRoomFor 57 = .ok (.goto 4, 3) := by decide +kernel
theorem dX3_hasRoomFor_60 : decode cX3_hasRoomFor 60 = .ok (.iconst 0, 1) := by decide +kernel
theorem dX3_hasRoomFor_61 : decode cX3_hasRoomFor 61 = .ok (.ireturn, 1) := by decide +kernel
theorem dX3_chosenGlyph_0 : decode cX3_chosenGlyph 0 = .ok (.aload_n 0, 1) := by decide +kernel
theorem dX3_chosenGlyph_1 : decode cX3_chosenGlyph 1 = .ok (.iload_n 1, 1) := by decide +kernel
theorem dX3_chosenGlyph_2 : decode cX3_chosenGlyph 2 = .ok (.invokevirtual 166, 3) := by decide +kernel
theorem dX3_chosenGlyph_5 : decode cX3_chosenGlyph 5 = .ok (.astore_n 3, 1) := by decide +kernel
theorem dX3_chosenGlyph_6 : decode cX3_chosenGlyph 6 = .ok (.aload_n 3, 1) := by decide +kernel
theorem dX3_chosenGlyph_7 : decode cX3_chosenGlyph 7 = .ok (.ifnonnull 7, 3) := by decide +kernel
theorem dX3_chosenGlyph_10 : decode cX3_chosenGlyph 10 = .ok (.aconst_null, 1) := by decide +kernel
theorem dX3_chosenGlyph_11 : decode cX3_chosenGlyph 11 = .ok (.goto 8, 3) := by decide +kernel
theorem dX3_chosenGlyph_14 : decode cX3_chosenGlyph 14 = .ok (.aload_n 3, 1) := by decide +kernel
theorem dX3_chosenGlyph_15 : decode cX3_chosenGlyph 15 = .ok (.iload_n 2, 1) := by decide +kernel
theorem dX3_chosenGlyph_16 : decode cX3_chosenGlyph 16 = .ok (.invokevirtual 119, 3) := by decide +kernel
theorem dX3_chosenGlyph_19 : decode cX3_chosenGlyph 19 = .ok (.areturn, 1) := by decide +kernel
theorem dX3_chosenFont_0 : decode cX3_chosenFont 0 = .ok (.iload_n 1, 1) := by decide +kernel
theorem dX3_chosenFont_1 : decode cX3_chosenFont 1 = .ok (.invokestatic 60, 3) := by decide +kernel
theorem dX3_chosenFont_4 : decode cX3_chosenFont 4 = .ok (.ifCond .ne 5, 3) := by decide +kernel
theorem dX3_chosenFont_7 : decode cX3_chosenFont 7 = .ok (.aconst_null, 1) := by decide +kernel
theorem dX3_chosenFont_8 : decode cX3_chosenFont 8 = .ok (.areturn, 1) := by decide +kernel
theorem dX3_chosenFont_9 : decode cX3_chosenFont 9 = .ok (.aload_n 0, 1) := by decide +kernel
theorem dX3_chosenFont_10 : decode cX3_chosenFont 10 = .ok (.aload_n 0, 1) := by decide +kernel
theorem dX3_chosenFont_11 : decode cX3_chosenFont 11 = .ok (.getfield 31, 3) := by decide +kernel
theorem dX3_chosenFont_14 : decode cX3_chosenFont 14 = .ok (.iload_n 1, 1) := by decide +kernel
theorem dX3_chosenFont_15 : decode cX3_chosenFont 15 = .ok (.aaload, 1) := by decide +kernel
theorem dX3_chosenFont_16 : decode cX3_chosenFont 16 = .ok (.getfield 66, 3) := by decide +kernel
theorem dX3_chosenFont_19 : decode cX3_chosenFont 19 = .ok (.invokevirtual 113, 3) := by decide +kernel
theorem dX3_chosenFont_22 : decode cX3_chosenFont 22 = .ok (.astore_n 2, 1) := by decide +kernel
theorem dX3_chosenFont_23 : decode cX3_chosenFont 23 = .ok (.aload_n 2, 1) := by decide +kernel
theorem dX3_chosenFont_24 : decode cX3_chosenFont 24 = .ok (.ifnull 7, 3) := by decide +kernel
theorem dX3_chosenFont_27 : decode cX3_chosenFont 27 = .ok (.aload_n 2, 1) := by decide +kernel
theorem dX3_chosenFont_28 : decode cX3_chosenFont 28 = .ok (.goto 16, 3) := by decide +kernel
theorem dX3_chosenFont_31 : decode cX3_chosenFont 31 = .ok (.aload_n 0, 1) := by decide +kernel
theorem dX3_chosenFont_32 : decode cX3_chosenFont 32 = .ok (.aload_n 0, 1) := by decide +kernel
theorem dX3_chosenFont_33 : decode cX3_chosenFont 33 = .ok (.getfield 31, 3) := by decide +kernel
theorem dX3_chosenFont_36 : decode cX3_chosenFont 36 = .ok (.iload_n 1, 1) := by decide +kernel
theorem dX3_chosenFont_37 : decode cX3_chosenFont 37 = .ok (.aaload, 1) := by decide +kernel
theorem dX3_chosenFont_38 : decode cX3_chosenFont 38 = .ok (.getfield 63, 3) := by decide +kernel
theorem dX3_chosenFont_41 : decode cX3_chosenFont 41 = .ok (.invokevirtual 230, 3) := by decide +kernel
theorem dX3_chosenFont_44 : decode cX3_chosenFont 44 = .ok (.areturn, 1) := by decide +kernel
theorem dX3_bestFor_0 : decode cX3_bestFor 0 = .ok (.aload_n 0, 1) := by decide +kernel
theorem dX3_bestFor_1 : decode cX3_bestFor 1 = .ok (.invokevirtual 234, 3) := by decide +kernel
theorem dX3_bestFor_4 : decode cX3_bestFor 4 = .ok (.istore_n 2, 1) := by decide +kernel
theorem dX3_bestFor_5 : decode cX3_bestFor 5 = .ok (.aload_n 0, 1) := by decide +kernel
theorem dX3_bestFor_6 : decode cX3_bestFor 6 = .ok (.iload_n 2, 1) := by decide +kernel
theorem dX3_bestFor_7 : decode cX3_bestFor 7 = .ok (.iconst 0, 1) := by decide +kernel
theorem dX3_bestFor_8 : decode cX3_bestFor 8 = .ok (.aload_n 0, 1) := by decide +kernel
theorem dX3_bestFor_9 : decode cX3_bestFor 9 = .ok (.iload_n 2, 1) := by decide +kernel
theorem dX3_bestFor_10 : decode cX3_bestFor 10 = .ok (.iconst 0, 1) := by decide +kernel
theorem dX3_bestFor_11 : decode cX3_bestFor 11 = .ok (.aload_n 1, 1) := by decide +kernel
theorem dX3_bestFor_12 : decode cX3_bestFor 12 = .ok (.iconst 0, 1) := by decide +kernel
theorem dX3_bestFor_13 : decode cX3_bestFor 13 = .ok (.iaload, 1) := by decide +kernel
theorem dX3_bestFor_14 : decode cX3_bestFor 14 = .ok (.invokevirtual 237, 3) := by decide +kernel
theorem dX3_bestFor_17 : decode cX3_bestFor 17 = .ok (.ifCond .ne 9, 3) := by decide +kernel
theorem dX3_bestFor_20 : decode cX3_bestFor 20 = .ok (.sipush 277, 3) := by decide +kernel
theorem dX3_bestFor_23 : decode cX3_bestFor 23 = .ok (.goto 6, 3) := by decide +kernel
theorem dX3_bestFor_26 : decode cX3_bestFor 26 = .ok (.aload_n 1, 1) := by decide +kernel
theorem dX3_bestFor_27 : decode cX3_bestFor 27 = .ok (.iconst 0, 1) := by decide +kernel
theorem dX3_bestFor_28 : decode cX3_bestFor 28 = .ok (.iaload, 1) := by decide +kernel
theorem dX3_bestFor_29 : decode cX3_bestFor 29 = .ok (.invokevirtual 241, 3) := by decide +kernel
theorem dX3_bestFor_32 : decode cX3_bestFor 32 = .ok (.istore_n 2, 1) := by decide +kernel
theorem dX3_bestFor_33 : decode cX3_bestFor 33 = .ok (.aload_n 0, 1) := by decide +kernel
theorem dX3_bestFor_34 : decode cX3_bestFor 34 = .ok (.iload_n 2, 1) := by decide +kernel
theorem dX3_bestFor_35 : decode cX3_bestFor 35 = .ok (.iconst 1, 1) := by decide +kernel
theorem dX3_bestFor_36 : decode cX3_bestFor 36 = .ok (.aload_n 1, 1) := by decide +kernel
theorem dX3_bestFor_37 : decode cX3_bestFor 37 = .ok (.iconst 1, 1) := by decide +kernel
theorem dX3_bestFor_38 : decode cX3_bestFor 38 = .ok (.iaload, 1) := by decide +kernel
theorem dX3_bestFor_39 : decode cX3_bestFor 39 = .ok (.invokevirtual 241, 3) := by decide +kernel
theorem dX3_bestFor_42 : decode cX3_bestFor 42 = .ok (.istore_n 2, 1) := by decide +kernel
theorem dX3_bestFor_43 : decode cX3_bestFor 43 = .ok (.aload_n 1, 1) := by decide +kernel
theorem dX3_bestFor_44 : decode cX3_bestFor 44 = .ok (.iconst 1, 1) := by decide +kernel
theorem dX3_bestFor_45 : decode cX3_bestFor 45 = .ok (.iaload, 1) := by decide +kernel
theorem dX3_bestFor_46 : decode cX3_bestFor 46 = .ok (.ifCond .ne 30, 3) := by decide +kernel
theorem dX3_bestFor_49 : decode cX3_bestFor 49 = .ok (.aload_n 0, 1) := by decide +kernel
theorem dX3_bestFor_50 : decode cX3_bestFor 50 = .ok (.iload_n 2, 1) := by decide +kernel
theorem dX3_bestFor_51 : decode cX3_bestFor 51 = .ok (.iconst 1, 1) := by decide +kernel
theorem dX3_bestFor_52 : decode cX3_bestFor 52 = .ok (.iconst 0, 1) := by decide +kernel
theorem dX3_bestFor_53 : decode cX3_bestFor 53 = .ok (.invokevirtual 237, 3) := by decide +kernel
theorem dX3_bestFor_56 : decode cX3_bestFor 56 = .ok (.iload_n 2, 1) := by decide +kernel
theorem dX3_bestFor_57 : decode cX3_bestFor 57 = .ok (.if_icmp .ne 19, 3) := by decide +kernel
theorem dX3_bestFor_60 : decode cX3_bestFor 60 = .ok (.aload_n 0, 1) := by decide +kernel
theorem dX3_bestFor_61 : decode cX3_bestFor 61 = .ok (.iload_n 2, 1) := by decide +kernel
theorem dX3_bestFor_62 : decode cX3_bestFor 62 = .ok (.iconst 2, 1) := by decide +kernel
theorem dX3_bestFor_63 : decode cX3_bestFor 63 = .ok (.aload_n 0, 1) := by decide +kernel
theorem dX3_bestFor_64 : decode cX3_bestFor 64 = .ok (.iload_n 2, 1) := by decide +kernel
theorem dX3_bestFor_65 : decode cX3_bestFor 65 = .ok (.iconst 2, 1) := by decide +kernel
theorem dX3_bestFor_66 : decode cX3_bestFor 66 = .ok (.aload_n 1, 1) := by decide +kernel
theorem dX3_bestFor_67 : decode cX3_bestFor 67 = .ok (.iconst 2, 1) := by decide +kernel
theorem dX3_bestFor_68 : decode cX3_bestFor 68 = .ok (.iaload, 1) := by decide +kernel
theorem dX3_bestFor_69 : decode cX3_bestFor 69 = .ok (.invokevirtual 244, 3) := by decide +kernel
theorem dX3_bestFor_72 : decode cX3_bestFor 72 = .ok (.invokevirtual 237, 3) := by decide +kernel
theorem dX3_bestFor_75 : decode cX3_bestFor 75 = .ok (.istore_n 2, 1) := by decide +kernel
theorem dX3_bestFor_76 : decode cX3_bestFor 76 = .ok (.aload_n 0, 1) := by decide +kernel
theorem dX3_bestFor_77 : decode cX3_bestFor 77 = .ok (.iload_n 2, 1) := by decide +kernel
theorem dX3_bestFor_78 : decode cX3_bestFor 78 = .ok (.iconst 3, 1) := by decide +kernel
theorem dX3_bestFor_79 : decode cX3_bestFor 79 = .ok (.aload_n 0, 1) := by decide +kernel
theorem dX3_bestFor_80 : decode cX3_bestFor 80 = .ok (.iload_n 2, 1) := by decide +kernel
theorem dX3_bestFor_81 : decode cX3_bestFor 81 = .ok (.aload_n 1, 1) := by decide +kernel
theorem dX3_bestFor_82 : decode cX3_bestFor 82 = .ok (.iconst 3, 1) := by decide +kernel
theorem dX3_bestFor_83 : decode cX3_bestFor 83 = .ok (.iaload, 1) := by decide +kernel
theorem dX3_bestFor_84 : decode cX3_bestFor 84 = .ok (.invokevirtual 247, 3) := by decide +kernel
theorem dX3_bestFor_87 : decode cX3_bestFor 87 = .ok (.invokevirtual 237, 3) := by decide +kernel
theorem dX3_bestFor_90 : decode cX3_bestFor 90 = .ok (.istore_n 2, 1) := by decide +kernel
theorem dX3_bestFor_91 : decode cX3_bestFor 91 = .ok (.aload_n 0, 1) := by decide +kernel
theorem dX3_bestFor_92 : decode cX3_bestFor 92 = .ok (.iload_n 2, 1) := by decide +kernel
theorem dX3_bestFor_93 : decode cX3_bestFor 93 = .ok (.iconst 4, 1) := by decide +kernel
theorem dX3_bestFor_94 : decode cX3_bestFor 94 = .ok (.aload_n 1, 1) := by decide +kernel
theorem dX3_bestFor_95 : decode cX3_bestFor 95 = .ok (.iconst 4, 1) := by decide +kernel
theorem dX3_bestFor_96 : decode cX3_bestFor 96 = .ok (.iaload, 1) := by decide +kernel
theorem dX3_bestFor_97 : decode cX3_bestFor 97 = .ok (.invokevirtual 241, 3) := by decide +kernel
theorem dX3_bestFor_100 : decode cX3_bestFor 100 = .ok (.istore_n 2, 1) := by decide +kernel
theorem dX3_bestFor_101 : decode cX3_bestFor 101 = .ok (.aload_n 0, 1) := by decide +kernel
theorem dX3_bestFor_102 : decode cX3_bestFor 102 = .ok (.iload_n 2, 1) := by decide +kernel
theorem dX3_bestFor_103 : decode cX3_bestFor 103 = .ok (.iconst 5, 1) := by decide +kernel
theorem dX3_bestFor_104 : decode cX3_bestFor 104 = .ok (.aload_n 1, 1) := by decide +kernel
theorem dX3_bestFor_105 : decode cX3_bestFor 105 = .ok (.iconst 5, 1) := by decide +kernel
theorem dX3_bestFor_106 : decode cX3_bestFor 106 = .ok (.iaload, 1) := by decide +kernel
theorem dX3_bestFor_107 : decode cX3_bestFor 107 = .ok (.ifCond .lt 15, 3) := by decide +kernel
theorem dX3_bestFor_110 : decode cX3_bestFor 110 = .ok (.aload_n 0, 1) := by decide +kernel
theorem dX3_bestFor_111 : decode cX3_bestFor 111 = .ok (.iload_n 2, 1) := by decide +kernel
theorem dX3_bestFor_112 : decode cX3_bestFor 112 = .ok (.iconst 5, 1) := by decide +kernel
theorem dX3_bestFor_113 : decode cX3_bestFor 113 = .ok (.aload_n 1, 1) := by decide +kernel
theorem dX3_bestFor_114 : decode cX3_bestFor 114 = .ok (.iconst 5, 1) := by decide +kernel
theorem dX3_bestFor_115 : decode cX3_bestFor 115 = .ok (.iaload, 1) := by decide +kernel
theorem dX3_bestFor_116 : decode cX3_bestFor 116 = .ok (.invokevirtual 244, 3) := by decide +kernel
theorem dX3_bestFor_119 : decode cX3_bestFor 119 = .ok (.goto 12, 3) := by decide +kernel
theorem dX3_bestFor_122 : decode cX3_bestFor 122 = .ok (.aload_n 0, 1) := by decide +kernel
theorem dX3_bestFor_123 : decode cX3_bestFor 123 = .ok (.iload_n 2, 1) := by decide +kernel
theorem dX3_bestFor_124 : decode cX3_bestFor 124 = .ok (.iconst 5, 1) := by decide +kernel
theorem dX3_bestFor_125 : decode cX3_bestFor 125 = .ok (.aload_n 1, 1) := by decide +kernel
theorem dX3_bestFor_126 : decode cX3_bestFor 126 = .ok (.iconst 5, 1) := by decide +kernel
theorem dX3_bestFor_127 : decode cX3_bestFor 127 = .ok (.iaload, 1) := by decide +kernel
theorem dX3_bestFor_128 : decode cX3_bestFor 128 = .ok (.invokevirtual 251, 3) := by decide +kernel
theorem dX3_bestFor_131 : decode cX3_bestFor 131 = .ok (.invokevirtual 237, 3) := by decide +kernel
theorem dX3_bestFor_134 : decode cX3_bestFor 134 = .ok (.istore_n 2, 1) := by decide +kernel
theorem dX3_bestFor_135 : decode cX3_bestFor 135 = .ok (.aload_n 0, 1) := by decide +kernel
theorem dX3_bestFor_136 : decode cX3_bestFor 136 = .ok (.iload_n 2, 1) := by decide +kernel
theorem dX3_bestFor_137 : decode cX3_bestFor 137 = .ok (.bipush 6, 2) := by decide +kernel
theorem dX3_bestFor_139 : decode cX3_bestFor 139 = .ok (.aload_n 1, 1) := by decide +kernel
theorem dX3_bestFor_140 : decode cX3_bestFor 140 = .ok (.bipush 6, 2) := by decide +kernel
theorem dX3_bestFor_142 : decode cX3_bestFor 142 = .ok (.iaload, 1) := by decide +kernel
theorem dX3_bestFor_143 : decode cX3_bestFor 143 = .ok (.invokevirtual 241, 3) := by decide +kernel
theorem dX3_bestFor_146 : decode cX3_bestFor 146 = .ok (.istore_n 2, 1) := by decide +kernel
theorem dX3_bestFor_147 : decode cX3_bestFor 147 = .ok (.aload_n 0, 1) := by decide +kernel
theorem dX3_bestFor_148 : decode cX3_bestFor 148 = .ok (.iload_n 2, 1) := by decide +kernel
theorem dX3_bestFor_149 : decode cX3_bestFor 149 = .ok (.invokevirtual 254, 3) := by decide +kernel
theorem dX3_bestFor_152 : decode cX3_bestFor 152 = .ok (.istore_n 2, 1) := by decide +kernel
theorem dX3_bestFor_153 : decode cX3_bestFor 153 = .ok (.bipush 31, 2) := by decide +kernel
theorem dX3_bestFor_155 : decode cX3_bestFor 155 = .ok (.iload_n 2, 1) := by decide +kernel
theorem dX3_bestFor_156 : decode cX3_bestFor 156 = .ok (.invokestatic 257, 3) := by decide +kernel
theorem dX3_bestFor_159 : decode cX3_bestFor 159 = .ok (.isub, 1) := by decide +kernel
theorem dX3_bestFor_160 : decode cX3_bestFor 160 = .ok (.istore_n 3, 1) := by decide +kernel
theorem dX3_bestFor_161 : decode cX3_bestFor 161 = .ok (.iload_n 3, 1) := by decide +kernel
theorem dX3_bestFor_162 : decode cX3_bestFor 162 = .ok (.iconst 0, 1) := by decide +kernel
theorem dX3_bestFor_163 : decode cX3_bestFor 163 = .ok (.aload_n 0, 1) := by decide +kernel
theorem dX3_bestFor_164 : decode cX3_bestFor 164 = .ok (.getfield 10, 3) := by decide +kernel
theorem dX3_bestFor_167 : decode cX3_bestFor 167 = .ok (.invokevirtual 73, 3) := by decide +kernel
theorem dX3_bestFor_170 : decode cX3_bestFor 170 = .ok (.iconst 1, 1) := by decide +kernel
theorem dX3_bestFor_171 : decode cX3_bestFor 171 = .ok (.isub, 1) := by decide +kernel
theorem dX3_bestFor_172 : decode cX3_bestFor 172 = .ok (.invokestatic 46, 3) := by decide +kernel
theorem dX3_bestFor_175 : decode cX3_bestFor 175 = .ok (.ifCond .eq 17, 3) := by decide +kernel
theorem dX3_bestFor_178 : decode cX3_bestFor 178 = .ok (.aload_n 0, 1) := by decide +kernel
theorem dX3_bestFor_179 : decode cX3_bestFor 179 = .ok (.getfield 10, 3) := by decide +kernel
theorem dX3_bestFor_182 : decode cX3_bestFor 182 = .ok (.iload_n 3, 1) := by decide +kernel
theorem dX3_bestFor_183 : decode cX3_bestFor 183 = .ok (.invokevirtual 177, 3) := by decide +kernel
theorem dX3_bestFor_186 : decode cX3_bestFor 186 = .ok (.checkcast 87, 3) := by decide +kernel
theorem dX3_bestFor_189 : decode cX3_bestFor 189 = .ok (.goto 4, 3) := by decide +kernel
theorem dX3_bestFor_192 : decode cX3_bestFor 192 = .ok (.aconst_null, 1) := by decide +kernel
theorem dX3_bestFor_193 : decode cX3_bestFor 193 = .ok (.areturn, 1) := by decide +kernel
theorem dX3_allFonts_0 : decode cX3_allFonts 0 = .ok (.aload_n 0, 1) := by decide +kernel
theorem dX3_allFonts_1 : decode cX3_allFonts 1 = .ok (.getfield 10, 3) := by decide +kernel
theorem dX3_allFonts_4 : decode cX3_allFonts 4 = .ok (.invokevirtual 73, 3) := by decide +kernel
theorem dX3_allFonts_7 : decode cX3_allFonts 7 = .ok (.bipush 32, 2) := by decide +kernel
theorem dX3_allFonts_9 : decode cX3_allFonts 9 = .ok (.if_icmp .lt 7, 3) := by decide +kernel
theorem dX3_allFonts_12 : decode cX3_allFonts 12 = .ok (.iconst (-1), 1) := by decide +kernel
theorem dX3_allFonts_13 : decode cX3_allFonts 13 = .ok (.goto 14, 3) := by decide +kernel
theorem dX3_allFonts_16 : decode cX3_allFonts 16 = .ok (.iconst 1, 1) := by decide +kernel
theorem dX3_allFonts_17 : decode cX3_allFonts 17 = .ok (.aload_n 0, 1) := by decide +kernel
theorem dX3_allFonts_18 : decode cX3_allFonts 18 = .ok (.getfield 10, 3) := by decide +kernel
theorem dX3_allFonts_21 : decode cX3_allFonts 21 = .ok (.invokevirtual 73, 3) := by decide +kernel
theorem dX3_allFonts_24 : decode cX3_allFonts 24 = .ok (.ishl, 1) := by decide +kernel
theorem dX3_allFonts_25 : decode cX3_allFonts 25 = .ok (.iconst 1, 1) := by decide +kernel
theorem dX3_allFonts_26 : decode cX3_allFonts 26 = .ok (.isub, 1) := by decide +kernel
theorem dX3_allFonts_27 : decode cX3_allFonts 27 = .ok (.ireturn, 1) := by decide +kernel
theorem dX3_isIn_0 : decode cX3_isIn 0 = .ok (.iload_n 0, 1) := by decide +kernel
theorem dX3_isIn_1 : decode cX3_isIn 1 = .ok (.iload_n 1, 1) := by decide +kernel
theorem dX3_isIn_2 : decode cX3_isIn 2 = .ok (.iushr, 1) := by decide +kernel
theorem dX3_isIn_3 : decode cX3_isIn 3 = .ok (.iconst 1, 1) := by decide +kernel
theorem dX3_isIn_4 : decode cX3_isIn 4 = .ok (.iand, 1) := by decide +kernel
theorem dX3_isIn_5 : decode cX3_isIn 5 = .ok (.iconst 1, 1) := by decide +kernel
theorem dX3_isIn_6 : decode cX3_isIn 6 = .ok (.if_icmp .ne 7, 3) := by decide +kernel
theorem dX3_isIn_9 : decode cX3_isIn 9 = .ok (.iconst 1, 1) := by decide +kernel
theorem dX3_isIn_10 : decode cX3_isIn 10 = .ok (.goto 4, 3) := by decide +kernel
theorem dX3_isIn_13 : decode cX3_isIn 13 = .ok (.iconst 0, 1) := by decide +kernel
theorem dX3_isIn_14 : decode cX3_isIn 14 = .ok (.ireturn, 1) := by decide +kernel
theorem dX3_having_0 : decode cX3_having 0 = .ok (.iconst 0, 1) := by decide +kernel
theorem dX3_having_1 : decode cX3_having 1 = .ok (.istore 4, 2) := by decide +kernel
theorem dX3_having_3 : decode cX3_having 3 = .ok (.iconst 0, 1) := by decide +kernel
theorem dX3_having_4 : decode cX3_having 4 = .ok (.istore 5, 2) := by decide +kernel
theorem dX3_having_6 : decode cX3_having 6 = .ok (.iload 5, 2) := by decide +kernel
theorem dX3_having_8 : decode cX3_having 8 = .ok (.aload_n 0, 1) := by decide +kernel
theorem dX3_having_9 : decode cX3_having 9 = .ok (.getfield 10, 3) := by decide +kernel
theorem dX3_having_12 : decode cX3_having 12 = .ok (.invokevirtual 73, 3) := by decide +kernel
theorem dX3_having_15 : decode cX3_having 15 = .ok (.if_icmp .ge 48, 3) := by decide +kernel
theorem dX3_having_18 : decode cX3_having 18 = .ok (.iload_n 1, 1) := by decide +kernel
theorem dX3_having_19 : decode cX3_having 19 = .ok (.iload 5, 2) := by decide +kernel
theorem dX3_having_21 : decode cX3_having 21 = .ok (.invokestatic 262, 3) := by decide +kernel
theorem dX3_having_24 : decode cX3_having 24 = .ok (.ifCond .eq 33, 3) := by decide +kernel
theorem dX3_having_27 : decode cX3_having 27 = .ok (.aload_n 0, 1) := by decide +kernel
theorem dX3_having_28 : decode cX3_having 28 = .ok (.getfield 10, 3) := by decide +kernel
theorem dX3_having_31 : decode cX3_having 31 = .ok (.iload 5, 2) := by decide +kernel
theorem dX3_having_33 : decode cX3_having 33 = .ok (.invokevirtual 177, 3) := by decide +kernel
theorem dX3_having_36 : decode cX3_having 36 = .ok (.checkcast 87, 3) := by decide +kernel
theorem dX3_having_39 : decode cX3_having 39 = .ok (.getfield 157, 3) := by decide +kernel
theorem dX3_having_42 : decode cX3_having 42 = .ok (.iload_n 2, 1) := by decide +kernel
theorem dX3_having_43 : decode cX3_having 43 = .ok (.iaload, 1) := by decide +kernel
theorem dX3_having_44 : decode cX3_having 44 = .ok (.iload_n 3, 1) := by decide +kernel
theorem dX3_having_45 : decode cX3_having 45 = .ok (.if_icmp .ne 12, 3) := by decide +kernel
theorem dX3_having_48 : decode cX3_having 48 = .ok (.iload 4, 2) := by decide +kernel
theorem dX3_having_50 : decode cX3_having 50 = .ok (.iconst 1, 1) := by decide +kernel
theorem dX3_having_51 : decode cX3_having 51 = .ok (.iload 5, 2) := by decide +kernel
theorem dX3_having_53 : decode cX3_having 53 = .ok (.ishl, 1) := by decide +kernel
theorem dX3_having_54 : decode cX3_having 54 = .ok (.ior, 1) := by decide +kernel
theorem dX3_having_55 : decode cX3_having 55 = .ok (.istore 4, 2) := by decide +kernel
theorem dX3_having_57 : decode cX3_having 57 = .ok (.iinc 5 1, 3) := by decide +kernel
theorem dX3_having_60 : decode cX3_having 60 = .ok (.goto (-54), 3) := by decide +kernel
theorem dX3_having_63 : decode cX3_having 63 = .ok (.iload 4, 2) := by decide +kernel
theorem dX3_having_65 : decode cX3_having 65 = .ok (.ireturn, 1) := by decide +kernel
theorem dX3_preferring_0 : decode cX3_preferring 0 = .ok (.aload_n 0, 1) := by decide +kernel
theorem dX3_preferring_1 : decode cX3_preferring 1 = .ok (.iload_n 1, 1) := by decide +kernel
theorem dX3_preferring_2 : decode cX3_preferring 2 = .ok (.iload_n 2, 1) := by decide +kernel
theorem dX3_preferring_3 : decode cX3_preferring 3 = .ok (.iload_n 3, 1) := by decide +kernel
theorem dX3_preferring_4 : decode cX3_preferring 4 = .ok (.invokevirtual 237, 3) := by decide +kernel
theorem dX3_preferring_7 : decode cX3_preferring 7 = .ok (.istore 4, 2) := by decide +kernel
theorem dX3_preferring_9 : decode cX3_preferring 9 = .ok (.iload 4, 2) := by decide +kernel
theorem dX3_preferring_11 : decode cX3_preferring 11 = .ok (.ifCond .ne 7, 3) := by decide +kernel
theorem dX3_preferring_14 : decode cX3_preferring 14 = .ok (.iload_n 1, 1) := by decide +kernel
theorem dX3_preferring_15 : decode cX3_preferring 15 = .ok (.goto 5, 3) := by decide +kernel
theorem dX3_preferring_18 : decode cX3_preferring 18 = .ok (.iload 4, 2) := by decide +kernel
theorem dX3_preferring_20 : decode cX3_preferring 20 = .ok (.ireturn, 1) := by decide +kernel
theorem dX3_preferringPassing_0 : decode cX3_preferringPassing 0 = .ok (.iconst 0, 1) := by decide +kernel
theorem dX3_preferringPassing_1 : decode cX3_preferringPassing 1 = .ok (.istore_n 2, 1) := by decide +kernel
theorem dX3_preferringPassing_2 : decode cX3_preferringPassing 2 = .ok (.iconst 0, 1) := by decide +kernel
theorem dX3_preferringPassing_3 : decode cX3_preferringPassing 3 = .ok (.istore_n 3, 1) := by decide +kernel
theorem dX3_preferringPassing_4 : decode cX3_preferringPassing 4 = .ok (.iload_n 3, 1) := by decide +kernel
theorem dX3_preferringPassing_5 : decode cX3_preferringPassing 5 = .ok (.aload_n 0, 1) := by decide +kernel
theorem dX3_preferringPassing_6 : decode cX3_preferringPassing 6 = .ok (.getfield 10, 3) := by decide +kernel
theorem dX3_preferringPassing_9 : decode cX3_preferringPassing 9 = .ok (.invokevirtual 73, 3) := by decide +kernel
theorem dX3_preferringPassing_12 : decode cX3_preferringPassing 12 = .ok (.if_icmp .ge 40, 3) := by decide +kernel
theorem dX3_preferringPassing_15 : decode cX3_preferringPassing 15 = .ok (.iload_n 1, 1) := by decide +kernel
theorem dX3_preferringPassing_16 : decode cX3_preferringPassing 16 = .ok (.iload_n 3, 1) := by decide +kernel
theorem dX3_preferringPassing_17 : decode cX3_preferringPassing 17 = .ok (.invokestatic 262, 3) := by decide +kernel
theorem dX3_preferringPassing_20 : decode cX3_preferringPassing 20 = .ok (.ifCond .eq 26, 3) := by decide +kernel
theorem dX3_preferringPassing_23 : decode cX3_preferringPassing 23 = .ok (.aload_n 0, 1) := by decide +kernel
theorem dX3_preferringPassing_24 : decode cX3_preferringPassing 24 = .ok (.getfield 10, 3) := by decide +kernel
theorem dX3_preferringPassing_27 : decode cX3_preferringPassing 27 = .ok (.iload_n 3, 1) := by decide +kernel
theorem dX3_preferringPassing_28 : decode cX3_preferringPassing 28 = .ok (.invokevirtual 177, 3) := by decide +kernel
theorem dX3_preferringPassing_31 : decode cX3_preferringPassing 31 = .ok (.checkcast 87, 3) := by decide +kernel
theorem dX3_preferringPassing_34 : decode cX3_preferringPassing 34 = .ok (.getfield 142, 3) := by decide +kernel
theorem dX3_preferringPassing_37 : decode cX3_preferringPassing 37 = .ok (.ifCond .ne 9, 3) := by decide +kernel
theorem dX3_preferringPassing_40 : decode cX3_preferringPassing 40 = .ok (.iload_n 2, 1) := by decide +kernel
theorem dX3_preferringPassing_41 : decode cX3_preferringPassing 41 = .ok (.iconst 1, 1) := by decide +kernel
theorem dX3_preferringPassing_42 : decode cX3_preferringPassing 42 = .ok (.iload_n 3, 1) := by decide +kernel
theorem dX3_preferringPassing_43 : decode cX3_preferringPassing 43 = .ok (.ishl, 1) := by decide +kernel
theorem dX3_preferringPassing_44 : decode cX3_preferringPassing 44 = .ok (.ior, 1) := by decide +kernel
theorem dX3_preferringPassing_45 : decode cX3_preferringPassing 45 = .ok (.istore_n 2, 1) := by decide +kernel
theorem dX3_preferringPassing_46 : decode cX3_preferringPassing 46 = .ok (.iinc 3 1, 3) := by decide +kernel
theorem dX3_preferringPassing_49 : decode cX3_preferringPassing 49 = .ok (.goto (-45), 3) := by decide +kernel
theorem dX3_preferringPassing_52 : decode cX3_preferringPassing 52 = .ok (.iload_n 2, 1) := by decide +kernel
theorem dX3_preferringPassing_53 : decode cX3_preferringPassing 53 = .ok (.ifCond .ne 7, 3) := by decide +kernel
theorem dX3_preferringPassing_56 : decode cX3_preferringPassing 56 = .ok (.iload_n 1, 1) := by decide +kernel
theorem dX3_preferringPassing_57 : decode cX3_preferringPassing 57 = .ok (.goto 4, 3) := by decide +kernel
theorem dX3_preferringPassing_60 : decode cX3_preferringPassing 60 = .ok (.iload_n 2, 1) := by decide +kernel
theorem dX3_preferringPassing_61 : decode cX3_preferringPassing 61 = .ok (.ireturn, 1) := by decide +kernel
theorem dX3_leastFrom_0 : decode cX3_leastFrom 0 = .ok (.ldc_w 266, 3) := by decide +kernel
theorem dX3_leastFrom_3 : decode cX3_leastFrom 3 = .ok (.istore 4, 2) := by decide +kernel
theorem dX3_leastFrom_5 : decode cX3_leastFrom 5 = .ok (.iconst 0, 1) := by decide +kernel
theorem dX3_leastFrom_6 : decode cX3_leastFrom 6 = .ok (.istore 5, 2) := by decide +kernel
theorem dX3_leastFrom_8 : decode cX3_leastFrom 8 = .ok (.iload 5, 2) := by decide +kernel
theorem dX3_leastFrom_10 : decode cX3_leastFrom 10 = .ok (.aload_n 0, 1) := by decide +kernel
theorem dX3_leastFrom_11 : decode cX3_leastFrom 11 = .ok (.getfield 10, 3) := by decide +kernel
theorem dX3_leastFrom_14 : decode cX3_leastFrom 14 = .ok (.invokevirtual 73, 3) := by decide +kernel
theorem dX3_leastFrom_17 : decode cX3_leastFrom 17 = .ok (.if_icmp .ge 54, 3) := by decide +kernel
theorem dX3_leastFrom_20 : decode cX3_leastFrom 20 = .ok (.aload_n 0, 1) := by decide +kernel
theorem dX3_leastFrom_21 : decode cX3_leastFrom 21 = .ok (.getfield 10, 3) := by decide +kernel
theorem dX3_leastFrom_24 : decode cX3_leastFrom 24 = .ok (.iload 5, 2) := by decide +kernel
theorem dX3_leastFrom_26 : decode cX3_leastFrom 26 = .ok (.invokevirtual 177, 3) := by decide +kernel
theorem dX3_leastFrom_29 : decode cX3_leastFrom 29 = .ok (.checkcast 87, 3) := by decide +kernel
theorem dX3_leastFrom_32 : decode cX3_leastFrom 32 = .ok (.getfield 157, 3) := by decide +kernel
theorem dX3_leastFrom_35 : decode cX3_leastFrom 35 = .ok (.iload_n 2, 1) := by decide +kernel
theorem dX3_leastFrom_36 : decode cX3_leastFrom 36 = .ok (.iaload, 1) := by decide +kernel
theorem dX3_leastFrom_37 : decode cX3_leastFrom 37 = .ok (.istore 6, 2) := by decide +kernel
theorem dX3_leastFrom_39 : decode cX3_leastFrom 39 = .ok (.iload_n 1, 1) := by decide +kernel
theorem dX3_leastFrom_40 : decode cX3_leastFrom 40 = .ok (.iload 5, 2) := by decide +kernel
theorem dX3_leastFrom_42 : decode cX3_leastFrom 42 = .ok (.invokestatic 262, 3) := by decide +kernel
theorem dX3_leastFrom_45 : decode cX3_leastFrom 45 = .ok (.ifCond .eq 20, 3) := by decide +kernel
theorem dX3_leastFrom_48 : decode cX3_leastFrom 48 = .ok (.iload 6, 2) := by decide +kernel
theorem dX3_leastFrom_50 : decode cX3_leastFrom 50 = .ok (.iload_n 3, 1) := by decide +kernel
theorem dX3_leastFrom_51 : decode cX3_leastFrom 51 = .ok (.if_icmp .lt 14, 3) := by decide +kernel
theorem dX3_leastFrom_54 : decode cX3_leastFrom 54 = .ok (.iload 6, 2) := by decide +kernel
theorem dX3_leastFrom_56 : decode cX3_leastFrom 56 = .ok (.iload 4, 2) := by decide +kernel
theorem dX3_leastFrom_58 : decode cX3_leastFrom 58 = .ok (.if_icmp .ge 7, 3) := by decide +kernel
theorem dX3_leastFrom_61 : decode cX3_leastFrom 61 = .ok (.iload 6, 2) := by decide +kernel
theorem dX3_leastFrom_63 : decode cX3_leastFrom 63 = .ok (.istore 4, 2) := by decide +kernel
theorem dX3_leastFrom_65 : decode cX3_leastFrom 65 = .ok (.iinc 5 1, 3) := by decide +kernel
theorem dX3_leastFrom_68 : decode cX3_leastFrom 68 = .ok (.goto (-60), 3) := by decide +kernel
theorem dX3_leastFrom_71 : decode cX3_leastFrom 71 = .ok (.iload 4, 2) := by decide +kernel
theorem dX3_leastFrom_73 : decode cX3_leastFrom 73 = .ok (.ireturn, 1) := by decide +kernel
theorem dX3_greatestUpTo_0 : decode cX3_greatestUpTo 0 = .ok (.ldc_w 267, 3) := by decide +kernel
theorem dX3_greatestUpTo_3 : decode cX3_greatestUpTo 3 = .ok (.istore 4, 2) := by decide +kernel
theorem dX3_greatestUpTo_5 : decode cX3_greatestUpTo 5 = .ok (.iconst 0, 1) := by decide +kernel
theorem dX3_greatestUpTo_6 : decode cX3_greatestUpTo 6 = .ok (.istore 5, 2) := by decide +kernel
theorem dX3_greatestUpTo_8 : decode cX3_greatestUpTo 8 = .ok (.iload 5, 2) := by decide +kernel
theorem dX3_greatestUpTo_10 : decode cX3_greatestUpTo 10 = .ok (.aload_n 0, 1) := by decide +kernel
theorem dX3_greatestUpTo_11 : decode cX3_greatestUpTo 11 = .ok (.getfield 10, 3) := by decide +kernel
theorem dX3_greatestUpTo_14 : decode cX3_greatestUpTo 14 = .ok (.invokevirtual 73, 3) := by decide +kernel
theorem dX3_greatestUpTo_17 : decode cX3_greatestUpTo 17 = .ok (.if_icmp .ge 54, 3) := by decide +kernel
theorem dX3_greatestUpTo_20 : decode cX3_greatestUpTo 20 = .ok (.aload_n 0, 1) := by decide +kernel
theorem dX3_greatestUpTo_21 : decode cX3_greatestUpTo 21 = .ok (.getfield 10, 3) := by decide +kernel
theorem dX3_greatestUpTo_24 : decode cX3_greatestUpTo 24 = .ok (.iload 5, 2) := by decide +kernel
theorem dX3_greatestUpTo_26 : decode cX3_greatestUpTo 26 = .ok (.invokevirtual 177, 3) := by decide +kernel
theorem dX3_greatestUpTo_29 : decode cX3_greatestUpTo 29 = .ok (.checkcast 87, 3) := by decide +kernel
theorem dX3_greatestUpTo_32 : decode cX3_greatestUpTo 32 = .ok (.getfield 157, 3) := by decide +kernel
theorem dX3_greatestUpTo_35 : decode cX3_greatestUpTo 35 = .ok (.iload_n 2, 1) := by decide +kernel
theorem dX3_greatestUpTo_36 : decode cX3_greatestUpTo 36 = .ok (.iaload, 1) := by decide +kernel
theorem dX3_greatestUpTo_37 : decode cX3_greatestUpTo 37 = .ok (.istore 6, 2) := by decide +kernel
theorem dX3_greatestUpTo_39 : decode cX3_greatestUpTo 39 = .ok (.iload_n 1, 1) := by decide +kernel
theorem dX3_greatestUpTo_40 : decode cX3_greatestUpTo 40 = .ok (.iload 5, 2) := by decide +kernel
theorem dX3_greatestUpTo_42 : decode cX3_greatestUpTo 42 = .ok (.invokestatic 262, 3) := by decide +kernel
theorem dX3_greatestUpTo_45 : decode cX3_greatestUpTo 45 = .ok (.ifCond .eq 20, 3) := by decide +kernel
theorem dX3_greatestUpTo_48 : decode cX3_greatestUpTo 48 = .ok (.iload 6, 2) := by decide +kernel
theorem dX3_greatestUpTo_50 : decode cX3_greatestUpTo 50 = .ok (.iload_n 3, 1) := by decide +kernel
theorem dX3_greatestUpTo_51 : decode cX3_greatestUpTo 51 = .ok (.if_icmp .gt 14, 3) := by decide +kernel
theorem dX3_greatestUpTo_54 : decode cX3_greatestUpTo 54 = .ok (.iload 6, 2) := by decide +kernel
theorem dX3_greatestUpTo_56 : decode cX3_greatestUpTo 56 = .ok (.iload 4, 2) := by decide +kernel
theorem dX3_greatestUpTo_58 : decode cX3_greatestUpTo 58 = .ok (.if_icmp .le 7, 3) := by decide +kernel
theorem dX3_greatestUpTo_61 : decode cX3_greatestUpTo 61 = .ok (.iload 6, 2) := by decide +kernel
theorem dX3_greatestUpTo_63 : decode cX3_greatestUpTo 63 = .ok (.istore 4, 2) := by decide +kernel
theorem dX3_greatestUpTo_65 : decode cX3_greatestUpTo 65 = .ok (.iinc 5 1, 3) := by decide +kernel
theorem dX3_greatestUpTo_68 : decode cX3_greatestUpTo 68 = .ok (.goto (-60), 3) := by decide +kernel
theorem dX3_greatestUpTo_71 : decode cX3_greatestUpTo 71 = .ok (.iload 4, 2) := by decide +kernel
theorem dX3_greatestUpTo_73 : decode cX3_greatestUpTo 73 = .ok (.ireturn, 1) := by decide +kernel
theorem dX3_nextUp_0 : decode cX3_nextUp 0 = .ok (.aload_n 0, 1) := by decide +kernel
theorem dX3_nextUp_1 : decode cX3_nextUp 1 = .ok (.iload_n 1, 1) := by decide +kernel
theorem dX3_nextUp_2 : decode cX3_nextUp 2 = .ok (.iload_n 2, 1) := by decide +kernel
theorem dX3_nextUp_3 : decode cX3_nextUp 3 = .ok (.iload_n 3, 1) := by decide +kernel
theorem dX3_nextUp_4 : decode cX3_nextUp 4 = .ok (.invokevirtual 268, 3) := by decide +kernel
theorem dX3_nextUp_7 : decode cX3_nextUp 7 = .ok (.istore 4, 2) := by decide +kernel
theorem dX3_nextUp_9 : decode cX3_nextUp 9 = .ok (.iload 4, 2) := by decide +kernel
theorem dX3_nextUp_11 : decode cX3_nextUp 11 = .ok (.ldc_w 266, 3) := by decide +kernel
theorem dX3_nextUp_14 : decode cX3_nextUp 14 = .ok (.if_icmp .ne 13, 3) := by decide +kernel
theorem dX3_nextUp_17 : decode cX3_nextUp 17 = .ok (.aload_n 0, 1) := by decide +kernel
theorem dX3_nextUp_18 : decode cX3_nextUp 18 = .ok (.iload_n 1, 1) := by decide +kernel
theorem dX3_nextUp_19 : decode cX3_nextUp 19 = .ok (.iload_n 2, 1) := by decide +kernel
theorem dX3_nextUp_20 : decode cX3_nextUp 20 = .ok (.iload_n 3, 1) := by decide +kernel
theorem dX3_nextUp_21 : decode cX3_nextUp 21 = .ok (.invokevirtual 271, 3) := by decide +kernel
theorem dX3_nextUp_24 : decode cX3_nextUp 24 = .ok (.goto 5, 3) := by decide +kernel
theorem dX3_nextUp_27 : decode cX3_nextUp 27 = .ok (.iload 4, 2) := by decide +kernel
theorem dX3_nextUp_29 : decode cX3_nextUp 29 = .ok (.ireturn, 1) := by decide +kernel
theorem dX3_nextDown_0 : decode cX3_nextDown 0 = .ok (.aload_n 0, 1) := by decide +kernel
theorem dX3_nextDown_1 : decode cX3_nextDown 1 = .ok (.iload_n 1, 1) := by decide +kernel
theorem dX3_nextDown_2 : decode cX3_nextDown 2 = .ok (.iload_n 2, 1) := by decide +kernel
theorem dX3_nextDown_3 : decode cX3_nextDown 3 = .ok (.iload_n 3, 1) := by decide +kernel
theorem dX3_nextDown_4 : decode cX3_nextDown 4 = .ok (.invokevirtual 271, 3) := by decide +kernel
theorem dX3_nextDown_7 : decode cX3_nextDown 7 = .ok (.istore 4, 2) := by decide +kernel
theorem dX3_nextDown_9 : decode cX3_nextDown 9 = .ok (.iload 4, 2) := by decide +kernel
theorem dX3_nextDown_11 : decode cX3_nextDown 11 = .ok (.ldc_w 267, 3) := by decide +kernel
theorem dX3_nextDown_14 : decode cX3_nextDown 14 = .ok (.if_icmp .ne 13, 3) := by decide +kernel
theorem dX3_nextDown_17 : decode cX3_nextDown 17 = .ok (.aload_n 0, 1) := by decide +kernel
theorem dX3_nextDown_18 : decode cX3_nextDown 18 = .ok (.iload_n 1, 1) := by decide +kernel
theorem dX3_nextDown_19 : decode cX3_nextDown 19 = .ok (.iload_n 2, 1) := by decide +kernel
theorem dX3_nextDown_20 : decode cX3_nextDown 20 = .ok (.iload_n 3, 1) := by decide +kernel
theorem dX3_nextDown_21 : decode cX3_nextDown 21 = .ok (.invokevirtual 268, 3) := by decide +kernel
theorem dX3_nextDown_24 : decode cX3_nextDown 24 = .ok (.goto 5, 3) := by decide +kernel
theorem dX3_nextDown_27 : decode cX3_nextDown 27 = .ok (.iload 4, 2) := by decide +kernel
theorem dX3_nextDown_29 : decode cX3_nextDown 29 = .ok (.ireturn, 1) := by decide +kernel
theorem dX3_nearestHeight_0 : decode cX3_nearestHeight 0 = .ok (.aload_n 0, 1) := by decide +kernel
theorem dX3_nearestHeight_1 : decode cX3_nearestHeight 1 = .ok (.iload_n 1, 1) := by decide +kernel
theorem dX3_nearestHeight_2 : decode cX3_nearestHeight 2 = .ok (.iconst 3, 1) := by decide +kernel
theorem dX3_nearestHeight_3 : decode cX3_nearestHeight 3 = .ok (.iload_n 2, 1) := by decide +kernel
theorem dX3_nearestHeight_4 : decode cX3_nearestHeight 4 = .ok (.invokevirtual 268, 3) := by decide +kernel
theorem dX3_nearestHeight_7 : decode cX3_nearestHeight 7 = .ok (.istore_n 3, 1) := by decide +kernel
theorem dX3_nearestHeight_8 : decode cX3_nearestHeight 8 = .ok (.aload_n 0, 1) := by decide +kernel
theorem dX3_nearestHeight_9 : decode cX3_nearestHeight 9 = .ok (.iload_n 1, 1) := by decide +kernel
theorem dX3_nearestHeight_10 : decode cX3_nearestHeight 10 = .ok (.iconst 3, 1) := by decide +kernel
theorem dX3_nearestHeight_11 : decode cX3_nearestHeight 11 = .ok (.iload_n 2, 1) := by decide +kernel
theorem dX3_nearestHeight_12 : decode cX3_nearestHeight 12 = .ok (.invokevirtual 271, 3) := by decide +kernel
theorem dX3_nearestHeight_15 : decode cX3_nearestHeight 15 = .ok (.istore 4, 2) := by decide +kernel
theorem dX3_nearestHeight_17 : decode cX3_nearestHeight 17 = .ok (.iload_n 3, 1) := by decide +kernel
theorem dX3_nearestHeight_18 : decode cX3_nearestHeight 18 = .ok (.ldc_w 266, 3) := by decide +kernel
theorem dX3_nearestHeight_21 : decode cX3_nearestHeight 21 = .ok (.if_icmp .ne 6, 3) := by decide +kernel
theorem dX3_nearestHeight_24 : decode cX3_nearestHeight 24 = .ok (.iload 4, 2) := by decide +kernel
theorem dX3_nearestHeight_26 : decode cX3_nearestHeight 26 = .ok (.ireturn, 1) := by decide +kernel
theorem dX3_nearestHeight_27 : decode cX3_nearestHeight 27 = .ok (.iload 4, 2) := by decide +kernel
theorem dX3_nearestHeight_29 : decode cX3_nearestHeight 29 = .ok (.ldc_w 267, 3) := by decide +kernel
theorem dX3_nearestHeight_32 : decode cX3_nearestHeight 32 = .ok (.if_icmp .ne 5, 3) := by decide +kernel
theorem dX3_nearestHeight_35 : decode cX3_nearestHeight 35 = .ok (.iload_n 3, 1) := by decide +kernel
theorem dX3_nearestHeight_36 : decode cX3_nearestHeight 36 = .ok (.ireturn, 1) := by decide +kernel
theorem dX3_nearestHeight_37 : decode cX3_nearestHeight 37 = .ok (.iload_n 3, 1) := by decide +kernel
theorem dX3_nearestHeight_38 : decode cX3_nearestHeight 38 = .ok (.iload_n 2, 1) := by decide +kernel
theorem dX3_nearestHeight_39 : decode cX3_nearestHeight 39 = .ok (.isub, 1) := by decide +kernel
theorem dX3_nearestHeight_40 : decode cX3_nearestHeight 40 = .ok (.iload_n 2, 1) := by decide +kernel
theorem dX3_nearestHeight_41 : decode cX3_nearestHeight 41 = .ok (.iload 4, 2) := by decide +kernel
theorem dX3_nearestHeight_43 : decode cX3_nearestHeight 43 = .ok (.isub, 1) := by decide +kernel
theorem dX3_nearestHeight_44 : decode cX3_nearestHeight 44 = .ok (.if_icmp .gt 7, 3) := by decide +kernel
theorem dX3_nearestHeight_47 : decode cX3_nearestHeight 47 = .ok (.iload_n 3, 1) := by decide +kernel
theorem dX3_nearestHeight_48 : decode cX3_nearestHeight 48 = .ok (.goto 5, 3) := by decide +kernel
theorem dX3_nearestHeight_51 : decode cX3_nearestHeight 51 = .ok (.iload 4, 2) := by decide +kernel
theorem dX3_nearestHeight_53 : decode cX3_nearestHeight 53 = .ok (.ireturn, 1) := by decide +kernel
