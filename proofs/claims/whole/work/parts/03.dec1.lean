theorem dX0_init_0 : decode cX0_init 0 = .ok (.aload_n 0, 1) := by decide +kernel
theorem dX0_init_1 : decode cX0_init 1 = .ok (.invokespecial 3, 3) := by decide +kernel
theorem dX0_init_4 : decode cX0_init 4 = .ok (.aload_n 0, 1) := by decide +kernel
theorem dX0_init_5 : decode cX0_init 5 = .ok (.new 9, 3) := by decide +kernel
theorem dX0_init_8 : decode cX0_init 8 = .ok (.dup, 1) := by decide +kernel
theorem dX0_init_9 : decode cX0_init 9 = .ok (.invokespecial 11, 3) := by decide +kernel
theorem dX0_init_12 : decode cX0_init 12 = .ok (.putfield 12, 3) := by decide +kernel
theorem dX0_init_15 : decode cX0_init 15 = .ok (.return_, 1) := by decide +kernel
theorem dX0_waysOf_0 : decode cX0_waysOf 0 = .ok (.lconst 1, 1) := by decide +kernel
theorem dX0_waysOf_1 : decode cX0_waysOf 1 = .ok (.lstore_n 3, 1) := by decide +kernel
theorem dX0_waysOf_2 : decode cX0_waysOf 2 = .ok (.iconst 0, 1) := by decide +kernel
theorem dX0_waysOf_3 : decode cX0_waysOf 3 = .ok (.istore 5, 2) := by decide +kernel
theorem dX0_waysOf_5 : decode cX0_waysOf 5 = .ok (.iload 5, 2) := by decide +kernel
theorem dX0_waysOf_7 : decode cX0_waysOf 7 = .ok (.aload_n 0, 1) := by decide +kernel
theorem dX0_waysOf_8 : decode cX0_waysOf 8 = .ok (.getfield 18, 3) := by decide +kernel
theorem dX0_waysOf_11 : decode cX0_waysOf 11 = .ok (.if_icmp .ge 51, 3) := by decide +kernel
theorem dX0_waysOf_14 : decode cX0_waysOf 14 = .ok (.iload 5, 2) := by decide +kernel
theorem dX0_waysOf_16 : decode cX0_waysOf 16 = .ok (.iload_n 2, 1) := by decide +kernel
theorem dX0_waysOf_17 : decode cX0_waysOf 17 = .ok (.if_icmp .eq 39, 3) := by decide +kernel
theorem dX0_waysOf_20 : decode cX0_waysOf 20 = .ok (.aload_n 0, 1) := by decide +kernel
theorem dX0_waysOf_21 : decode cX0_waysOf 21 = .ok (.getfield 24, 3) := by decide +kernel
theorem dX0_waysOf_24 : decode cX0_waysOf 24 = .ok (.iload 5, 2) := by decide +kernel
theorem dX0_waysOf_26 : decode cX0_waysOf 26 = .ok (.aaload, 1) := by decide +kernel
theorem dX0_waysOf_27 : decode cX0_waysOf 27 = .ok (.getfield 28, 3) := by decide +kernel
theorem dX0_waysOf_30 : decode cX0_waysOf 30 = .ok (.istore 6, 2) := by decide +kernel
theorem dX0_waysOf_32 : decode cX0_waysOf 32 = .ok (.lload_n 3, 1) := by decide +kernel
theorem dX0_waysOf_33 : decode cX0_waysOf 33 = .ok (.iload_n 1, 1) := by decide +kernel
theorem dX0_waysOf_34 : decode cX0_waysOf 34 = .ok (.iload 5, 2) := by decide +kernel
theorem dX0_waysOf_36 : decode cX0_waysOf 36 = .ok (.ishr, 1) := by decide +kernel
theorem dX0_waysOf_37 : decode cX0_waysOf 37 = .ok (.iconst 1, 1) := by decide +kernel
theorem dX0_waysOf_38 : decode cX0_waysOf 38 = .ok (.iand, 1) := by decide +kernel
theorem dX0_waysOf_39 : decode cX0_waysOf 39 = .ok (.ifCond .eq 9, 3) := by decide +kernel
theorem dX0_waysOf_42 : decode cX0_waysOf 42 = .ok (.iload 6, 2) := by decide +kernel
theorem dX0_waysOf_44 : decode cX0_waysOf 44 = .ok (.i2l, 1) := by decide +kernel
theorem dX0_waysOf_45 : decode cX0_waysOf 45 = .ok (.goto 9, 3) := by decide +kernel
theorem dX0_waysOf_48 : decode cX0_waysOf 48 = .ok (.bipush 12, 2) := by decide +kernel
theorem dX0_waysOf_50 : decode cX0_waysOf 50 = .ok (.iload 6, 2) := by decide +kernel
theorem dX0_waysOf_52 : decode cX0_waysOf 52 = .ok (.isub, 1) := by decide +kernel
theorem dX0_waysOf_53 : decode cX0_waysOf 53 = .ok (.i2l, 1) := by decide +kernel
theorem dX0_waysOf_54 : decode cX0_waysOf 54 = .ok (.lmul, 1) := by decide +kernel
theorem dX0_waysOf_55 : decode cX0_waysOf 55 = .ok (.lstore_n 3, 1) := by decide +kernel
theorem dX0_waysOf_56 : decode cX0_waysOf 56 = .ok (.iinc 5 1, 3) := by decide +kernel
theorem dX0_waysOf_59 : decode cX0_waysOf 59 = .ok (.goto (-54), 3) := by decide +kernel
theorem dX0_waysOf_62 : decode cX0_waysOf 62 = .ok (.lload_n 3, 1) := by decide +kernel
theorem dX0_waysOf_63 : decode cX0_waysOf 63 = .ok (.lreturn, 1) := by decide +kernel
theorem dX0_share_0 : decode cX0_share 0 = .ok (.lconst 1, 1) := by decide +kernel
theorem dX0_share_1 : decode cX0_share 1 = .ok (.lstore 5, 2) := by decide +kernel
theorem dX0_share_3 : decode cX0_share 3 = .ok (.iconst 0, 1) := by decide +kernel
theorem dX0_share_4 : decode cX0_share 4 = .ok (.istore 7, 2) := by decide +kernel
theorem dX0_share_6 : decode cX0_share 6 = .ok (.iload 7, 2) := by decide +kernel
theorem dX0_share_8 : decode cX0_share 8 = .ok (.iload 4, 2) := by decide +kernel
theorem dX0_share_10 : decode cX0_share 10 = .ok (.if_icmp .ge 17, 3) := by decide +kernel
theorem dX0_share_13 : decode cX0_share 13 = .ok (.lload 5, 2) := by decide +kernel
theorem dX0_share_15 : decode cX0_share 15 = .ok (.ldc2_w 33, 3) := by decide +kernel
theorem dX0_share_18 : decode cX0_share 18 = .ok (.lmul, 1) := by decide +kernel
theorem dX0_share_19 : decode cX0_share 19 = .ok (.lstore 5, 2) := by decide +kernel
theorem dX0_share_21 : decode cX0_share 21 = .ok (.iinc 7 1, 3) := by decide +kernel
theorem dX0_share_24 : decode cX0_share 24 = .ok (.goto (-18), 3) := by decide +kernel
theorem dX0_share_27 : decode cX0_share 27 = .ok (.lload 5, 2) := by decide +kernel
theorem dX0_share_29 : decode cX0_share 29 = .ok (.lconst 0, 1) := by decide +kernel
theorem dX0_share_30 : decode cX0_share 30 = .ok (.lcmp, 1) := by decide +kernel
theorem dX0_share_31 : decode cX0_share 31 = .ok (.ifCond .le 13, 3) := by decide +kernel
theorem dX0_share_34 : decode cX0_share 34 = .ok (.lload_n 0, 1) := by decide +kernel
theorem dX0_share_35 : decode cX0_share 35 = .ok (.lload_n 2, 1) := by decide +kernel
theorem dX0_share_36 : decode cX0_share 36 = .ok (.lmul, 1) := by decide +kernel
theorem dX0_share_37 : decode cX0_share 37 = .ok (.lload 5, 2) := by decide +kernel
theorem dX0_share_39 : decode cX0_share 39 = .ok (.ldiv, 1) := by decide +kernel
theorem dX0_share_40 : decode cX0_share 40 = .ok (.l2i, 1) := by decide +kernel
theorem dX0_share_41 : decode cX0_share 41 = .ok (.goto 4, 3) := by decide +kernel
theorem dX0_share_44 : decode cX0_share 44 = .ok (.iconst 0, 1) := by decide +kernel
theorem dX0_share_45 : decode cX0_share 45 = .ok (.ireturn, 1) := by decide +kernel
theorem dX0_ofLeft_0 : decode cX0_ofLeft 0 = .ok (.aload_n 1, 1) := by decide +kernel
theorem dX0_ofLeft_1 : decode cX0_ofLeft 1 = .ok (.invokevirtual 35, 3) := by decide +kernel
theorem dX0_ofLeft_4 : decode cX0_ofLeft 4 = .ok (.istore_n 3, 1) := by decide +kernel
theorem dX0_ofLeft_5 : decode cX0_ofLeft 5 = .ok (.lconst 0, 1) := by decide +kernel
theorem dX0_ofLeft_6 : decode cX0_ofLeft 6 = .ok (.lstore 4, 2) := by decide +kernel
theorem dX0_ofLeft_8 : decode cX0_ofLeft 8 = .ok (.iconst 0, 1) := by decide +kernel
theorem dX0_ofLeft_9 : decode cX0_ofLeft 9 = .ok (.istore 6, 2) := by decide +kernel
theorem dX0_ofLeft_11 : decode cX0_ofLeft 11 = .ok (.iload 6, 2) := by decide +kernel
theorem dX0_ofLeft_13 : decode cX0_ofLeft 13 = .ok (.iload_n 3, 1) := by decide +kernel
theorem dX0_ofLeft_14 : decode cX0_ofLeft 14 = .ok (.if_icmp .gt 49, 3) := by decide +kernel
theorem dX0_ofLeft_17 : decode cX0_ofLeft 17 = .ok (.aload_n 0, 1) := by decide +kernel
theorem dX0_ofLeft_18 : decode cX0_ofLeft 18 = .ok (.getfield 12, 3) := by decide +kernel
theorem dX0_ofLeft_21 : decode cX0_ofLeft 21 = .ok (.aload_n 1, 1) := by decide +kernel
theorem dX0_ofLeft_22 : decode cX0_ofLeft 22 = .ok (.iload 6, 2) := by decide +kernel
theorem dX0_ofLeft_24 : decode cX0_ofLeft 24 = .ok (.aload_n 1, 1) := by decide +kernel
theorem dX0_ofLeft_25 : decode cX0_ofLeft 25 = .ok (.getfield 39, 3) := by decide +kernel
theorem dX0_ofLeft_28 : decode cX0_ofLeft 28 = .ok (.invokevirtual 42, 3) := by decide +kernel
theorem dX0_ofLeft_31 : decode cX0_ofLeft 31 = .ok (.aload_n 0, 1) := by decide +kernel
theorem dX0_ofLeft_32 : decode cX0_ofLeft 32 = .ok (.getfield 12, 3) := by decide +kernel
theorem dX0_ofLeft_35 : decode cX0_ofLeft 35 = .ok (.getfield 46, 3) := by decide +kernel
theorem dX0_ofLeft_38 : decode cX0_ofLeft 38 = .ok (.iload_n 2, 1) := by decide +kernel
theorem dX0_ofLeft_39 : decode cX0_ofLeft 39 = .ok (.ishr, 1) := by decide +kernel
theorem dX0_ofLeft_40 : decode cX0_ofLeft 40 = .ok (.iconst 1, 1) := by decide +kernel
theorem dX0_ofLeft_41 : decode cX0_ofLeft 41 = .ok (.iand, 1) := by decide +kernel
theorem dX0_ofLeft_42 : decode cX0_ofLeft 42 = .ok (.ifCond .eq 15, 3) := by decide +kernel
theorem dX0_ofLeft_45 : decode cX0_ofLeft 45 = .ok (.lload 4, 2) := by decide +kernel
theorem dX0_ofLeft_47 : decode cX0_ofLeft 47 = .ok (.aload_n 1, 1) := by decide +kernel
theorem dX0_ofLeft_48 : decode cX0_ofLeft 48 = .ok (.iload 6, 2) := by decide +kernel
theorem dX0_ofLeft_50 : decode cX0_ofLeft 50 = .ok (.iconst (-1), 1) := by decide +kernel
theorem dX0_ofLeft_51 : decode cX0_ofLeft 51 = .ok (.invokestatic 49, 3) := by decide +kernel
theorem dX0_ofLeft_54 : decode cX0_ofLeft 54 = .ok (.ladd, 1) := by decide +kernel
theorem dX0_ofLeft_55 : decode cX0_ofLeft 55 = .ok (.lstore 4, 2) := by decide +kernel
theorem dX0_ofLeft_57 : decode cX0_ofLeft 57 = .ok (.iinc 6 1, 3) := by decide +kernel
theorem dX0_ofLeft_60 : decode cX0_ofLeft 60 = .ok (.goto (-49), 3) := by decide +kernel
theorem dX0_ofLeft_63 : decode cX0_ofLeft 63 = .ok (.ldc2_w 53, 3) := by decide +kernel
theorem dX0_ofLeft_66 : decode cX0_ofLeft 66 = .ok (.lload 4, 2) := by decide +kernel
theorem dX0_ofLeft_68 : decode cX0_ofLeft 68 = .ok (.aload_n 1, 1) := by decide +kernel
theorem dX0_ofLeft_69 : decode cX0_ofLeft 69 = .ok (.getfield 18, 3) := by decide +kernel
theorem dX0_ofLeft_72 : decode cX0_ofLeft 72 = .ok (.invokestatic 55, 3) := by decide +kernel
theorem dX0_ofLeft_75 : decode cX0_ofLeft 75 = .ok (.ireturn, 1) := by decide +kernel
theorem dX0_ofGlad_0 : decode cX0_ofGlad 0 = .ok (.aload_n 1, 1) := by decide +kernel
theorem dX0_ofGlad_1 : decode cX0_ofGlad 1 = .ok (.invokevirtual 35, 3) := by decide +kernel
theorem dX0_ofGlad_4 : decode cX0_ofGlad 4 = .ok (.istore_n 3, 1) := by decide +kernel
theorem dX0_ofGlad_5 : decode cX0_ofGlad 5 = .ok (.lconst 0, 1) := by decide +kernel
theorem dX0_ofGlad_6 : decode cX0_ofGlad 6 = .ok (.lstore 4, 2) := by decide +kernel
theorem dX0_ofGlad_8 : decode cX0_ofGlad 8 = .ok (.iconst 0, 1) := by decide +kernel
theorem dX0_ofGlad_9 : decode cX0_ofGlad 9 = .ok (.istore 6, 2) := by decide +kernel
theorem dX0_ofGlad_11 : decode cX0_ofGlad 11 = .ok (.iload 6, 2) := by decide +kernel
theorem dX0_ofGlad_13 : decode cX0_ofGlad 13 = .ok (.iload_n 3, 1) := by decide +kernel
theorem dX0_ofGlad_14 : decode cX0_ofGlad 14 = .ok (.if_icmp .gt 58, 3) := by decide +kernel
theorem dX0_ofGlad_17 : decode cX0_ofGlad 17 = .ok (.iload 6, 2) := by decide +kernel
theorem dX0_ofGlad_19 : decode cX0_ofGlad 19 = .ok (.iload_n 2, 1) := by decide +kernel
theorem dX0_ofGlad_20 : decode cX0_ofGlad 20 = .ok (.ishr, 1) := by decide +kernel
theorem dX0_ofGlad_21 : decode cX0_ofGlad 21 = .ok (.iconst 1, 1) := by decide +kernel
theorem dX0_ofGlad_22 : decode cX0_ofGlad 22 = .ok (.iand, 1) := by decide +kernel
theorem dX0_ofGlad_23 : decode cX0_ofGlad 23 = .ok (.ifCond .eq 43, 3) := by decide +kernel
theorem dX0_ofGlad_26 : decode cX0_ofGlad 26 = .ok (.aload_n 0, 1) := by decide +kernel
theorem dX0_ofGlad_27 : decode cX0_ofGlad 27 = .ok (.getfield 12, 3) := by decide +kernel
theorem dX0_ofGlad_30 : decode cX0_ofGlad 30 = .ok (.aload_n 1, 1) := by decide +kernel
theorem dX0_ofGlad_31 : decode cX0_ofGlad 31 = .ok (.iload 6, 2) := by decide +kernel
theorem dX0_ofGlad_33 : decode cX0_ofGlad 33 = .ok (.aload_n 1, 1) := by decide +kernel
theorem dX0_ofGlad_34 : decode cX0_ofGlad 34 = .ok (.getfield 39, 3) := by decide +kernel
theorem dX0_ofGlad_37 : decode cX0_ofGlad 37 = .ok (.invokevirtual 42, 3) := by decide +kernel
theorem dX0_ofGlad_40 : decode cX0_ofGlad 40 = .ok (.aload_n 0, 1) := by decide +kernel
theorem dX0_ofGlad_41 : decode cX0_ofGlad 41 = .ok (.getfield 12, 3) := by decide +kernel
theorem dX0_ofGlad_44 : decode cX0_ofGlad 44 = .ok (.getfield 59, 3) := by decide +kernel
theorem dX0_ofGlad_47 : decode cX0_ofGlad 47 = .ok (.iload_n 2, 1) := by decide +kernel
theorem dX0_ofGlad_48 : decode cX0_ofGlad 48 = .ok (.ishr, 1) := by decide +kernel
theorem dX0_ofGlad_49 : decode cX0_ofGlad 49 = .ok (.iconst 1, 1) := by decide +kernel
theorem dX0_ofGlad_50 : decode cX0_ofGlad 50 = .ok (.iand, 1) := by decide +kernel
theorem dX0_ofGlad_51 : decode cX0_ofGlad 51 = .ok (.ifCond .eq 15, 3) := by decide +kernel
theorem dX0_ofGlad_54 : decode cX0_ofGlad 54 = .ok (.lload 4, 2) := by decide +kernel
theorem dX0_ofGlad_56 : decode cX0_ofGlad 56 = .ok (.aload_n 1, 1) := by decide +kernel
theorem dX0_ofGlad_57 : decode cX0_ofGlad 57 = .ok (.iload 6, 2) := by decide +kernel
theorem dX0_ofGlad_59 : decode cX0_ofGlad 59 = .ok (.iload_n 2, 1) := by decide +kernel
theorem dX0_ofGlad_60 : decode cX0_ofGlad 60 = .ok (.invokestatic 49, 3) := by decide +kernel
theorem dX0_ofGlad_63 : decode cX0_ofGlad 63 = .ok (.ladd, 1) := by decide +kernel
theorem dX0_ofGlad_64 : decode cX0_ofGlad 64 = .ok (.lstore 4, 2) := by decide +kernel
theorem dX0_ofGlad_66 : decode cX0_ofGlad 66 = .ok (.iinc 6 1, 3) := by decide +kernel
theorem dX0_ofGlad_69 : decode cX0_ofGlad 69 = .ok (.goto (-58), 3) := by decide +kernel
theorem dX0_ofGlad_72 : decode cX0_ofGlad 72 = .ok (.ldc2_w 53, 3) := by decide +kernel
theorem dX0_ofGlad_75 : decode cX0_ofGlad 75 = .ok (.lload 4, 2) := by decide +kernel
theorem dX0_ofGlad_77 : decode cX0_ofGlad 77 = .ok (.aload_n 1, 1) := by decide +kernel
theorem dX0_ofGlad_78 : decode cX0_ofGlad 78 = .ok (.getfield 18, 3) := by decide +kernel
theorem dX0_ofGlad_81 : decode cX0_ofGlad 81 = .ok (.iconst 1, 1) := by decide +kernel
theorem dX0_ofGlad_82 : decode cX0_ofGlad 82 = .ok (.isub, 1) := by decide +kernel
theorem dX0_ofGlad_83 : decode cX0_ofGlad 83 = .ok (.invokestatic 55, 3) := by decide +kernel
theorem dX0_ofGlad_86 : decode cX0_ofGlad 86 = .ok (.ireturn, 1) := by decide +kernel
theorem dX0_ofManyGlad_0 : decode cX0_ofManyGlad 0 = .ok (.aload_n 1, 1) := by decide +kernel
theorem dX0_ofManyGlad_1 : decode cX0_ofManyGlad 1 = .ok (.invokevirtual 35, 3) := by decide +kernel
theorem dX0_ofManyGlad_4 : decode cX0_ofManyGlad 4 = .ok (.istore_n 3, 1) := by decide +kernel
theorem dX0_ofManyGlad_5 : decode cX0_ofManyGlad 5 = .ok (.lconst 0, 1) := by decide +kernel
theorem dX0_ofManyGlad_6 : decode cX0_ofManyGlad 6 = .ok (.lstore 4, 2) := by decide +kernel
theorem dX0_ofManyGlad_8 : decode cX0_ofManyGlad 8 = .ok (.iconst 0, 1) := by decide +kernel
theorem dX0_ofManyGlad_9 : decode cX0_ofManyGlad 9 = .ok (.istore 6, 2) := by decide +kernel
theorem dX0_ofManyGlad_11 : decode cX0_ofManyGlad 11 = .ok (.iload 6, 2) := by decide +kernel
theorem dX0_ofManyGlad_13 : decode cX0_ofManyGlad 13 = .ok (.iload_n 3, 1) := by decide +kernel
theorem dX0_ofManyGlad_14 : decode cX0_ofManyGlad 14 = .ok (.if_icmp .gt 49, 3) := by decide +kernel
theorem dX0_ofManyGlad_17 : decode cX0_ofManyGlad 17 = .ok (.aload_n 0, 1) := by decide +kernel
theorem dX0_ofManyGlad_18 : decode cX0_ofManyGlad 18 = .ok (.getfield 12, 3) := by decide +kernel
theorem dX0_ofManyGlad_21 : decode cX0_ofManyGlad 21 = .ok (.aload_n 1, 1) := by decide +kernel
theorem dX0_ofManyGlad_22 : decode cX0_ofManyGlad 22 = .ok (.iload 6, 2) := by decide +kernel
theorem dX0_ofManyGlad_24 : decode cX0_ofManyGlad 24 = .ok (.aload_n 1, 1) := by decide +kernel
theorem dX0_ofManyGlad_25 : decode cX0_ofManyGlad 25 = .ok (.getfield 39, 3) := by decide +kernel
theorem dX0_ofManyGlad_28 : decode cX0_ofManyGlad 28 = .ok (.invokevirtual 42, 3) := by decide +kernel
theorem dX0_ofManyGlad_31 : decode cX0_ofManyGlad 31 = .ok (.aload_n 0, 1) := by decide +kernel
theorem dX0_ofManyGlad_32 : decode cX0_ofManyGlad 32 = .ok (.getfield 12, 3) := by decide +kernel
theorem dX0_ofManyGlad_35 : decode cX0_ofManyGlad 35 = .ok (.getfield 59, 3) := by decide +kernel
theorem dX0_ofManyGlad_38 : decode cX0_ofManyGlad 38 = .ok (.invokestatic 62, 3) := by decide +kernel
theorem dX0_ofManyGlad_41 : decode cX0_ofManyGlad 41 = .ok (.iload_n 2, 1) := by decide +kernel
theorem dX0_ofManyGlad_42 : decode cX0_ofManyGlad 42 = .ok (.if_icmp .lt 15, 3) := by decide +kernel
theorem dX0_ofManyGlad_45 : decode cX0_ofManyGlad 45 = .ok (.lload 4, 2) := by decide +kernel
theorem dX0_ofManyGlad_47 : decode cX0_ofManyGlad 47 = .ok (.aload_n 1, 1) := by decide +kernel
theorem dX0_ofManyGlad_48 : decode cX0_ofManyGlad 48 = .ok (.iload 6, 2) := by decide +kernel
theorem dX0_ofManyGlad_50 : decode cX0_ofManyGlad 50 = .ok (.iconst (-1), 1) := by decide +kernel
theorem dX0_ofManyGlad_51 : decode cX0_ofManyGlad 51 = .ok (.invokestatic 49, 3) := by decide +kernel
theorem dX0_ofManyGlad_54 : decode cX0_ofManyGlad 54 = .ok (.ladd, 1) := by decide +kernel
theorem dX0_ofManyGlad_55 : decode cX0_ofManyGlad 55 = .ok (.lstore 4, 2) := by decide +kernel
theorem dX0_ofManyGlad_57 : decode cX0_ofManyGlad 57 = .ok (.iinc 6 1, 3) := by decide +kernel
theorem dX0_ofManyGlad_60 : decode cX0_ofManyGlad 60 = .ok (.goto (-49), 3) := by decide +kernel
theorem dX0_ofManyGlad_63 : decode cX0_ofManyGlad 63 = .ok (.ldc2_w 53, 3) := by decide +kernel
theorem dX0_ofManyGlad_66 : decode cX0_ofManyGlad 66 = .ok (.lload 4, 2) := by decide +kernel
theorem dX0_ofManyGlad_68 : decode cX0_ofManyGlad 68 = .ok (.aload_n 1, 1) := by decide +kernel
theorem dX0_ofManyGlad_69 : decode cX0_ofManyGlad 69 = .ok (.getfield 18, 3) := by decide +kernel
theorem dX0_ofManyGlad_72 : decode cX0_ofManyGlad 72 = .ok (.invokestatic 55, 3) := by decide +kernel
theorem dX0_ofManyGlad_75 : decode cX0_ofManyGlad 75 = .ok (.ireturn, 1) := by decide +kernel
theorem dX0_meanOfLeft_0 : decode cX0_meanOfLeft 0 = .ok (.aload_n 1, 1) := by decide +kernel
theorem dX0_meanOfLeft_1 : decode cX0_meanOfLeft 1 = .ok (.invokevirtual 35, 3) := by decide +kernel
theorem dX0_meanOfLeft_4 : decode cX0_meanOfLeft 4 = .ok (.istore_n 2, 1) := by decide +kernel
theorem dX0_meanOfLeft_5 : decode cX0_meanOfLeft 5 = .ok (.lconst 0, 1) := by decide +kernel
theorem dX0_meanOfLeft_6 : decode cX0_meanOfLeft 6 = .ok (.lstore_n 3, 1) := by decide +kernel
theorem dX0_meanOfLeft_7 : decode cX0_meanOfLeft 7 = .ok (.iconst 0, 1) := by decide +kernel
theorem dX0_meanOfLeft_8 : decode cX0_meanOfLeft 8 = .ok (.istore 5, 2) := by decide +kernel
theorem dX0_meanOfLeft_10 : decode cX0_meanOfLeft 10 = .ok (.iload 5, 2) := by decide +kernel
theorem dX0_meanOfLeft_12 : decode cX0_meanOfLeft 12 = .ok (.iload_n 2, 1) := by decide +kernel
theorem dX0_meanOfLeft_13 : decode cX0_meanOfLeft 13 = .ok (.if_icmp .gt 45, 3) := by decide +kernel
theorem dX0_meanOfLeft_16 : decode cX0_meanOfLeft 16 = .ok (.aload_n 0, 1) := by decide +kernel
theorem dX0_meanOfLeft_17 : decode cX0_meanOfLeft 17 = .ok (.getfield 12, 3) := by decide +kernel
theorem dX0_meanOfLeft_20 : decode cX0_meanOfLeft 20 = .ok (.aload_n 1, 1) := by decide +kernel
theorem dX0_meanOfLeft_21 : decode cX0_meanOfLeft 21 = .ok (.iload 5, 2) := by decide +kernel
theorem dX0_meanOfLeft_23 : decode cX0_meanOfLeft 23 = .ok (.aload_n 1, 1) := by decide +kernel
theorem dX0_meanOfLeft_24 : decode cX0_meanOfLeft 24 = .ok (.getfield 39, 3) := by decide +kernel
theorem dX0_meanOfLeft_27 : decode cX0_meanOfLeft 27 = .ok (.invokevirtual 42, 3) := by decide +kernel
theorem dX0_meanOfLeft_30 : decode cX0_meanOfLeft 30 = .ok (.lload_n 3, 1) := by decide +kernel
theorem dX0_meanOfLeft_31 : decode cX0_meanOfLeft 31 = .ok (.aload_n 0, 1) := by decide +kernel
theorem dX0_meanOfLeft_32 : decode cX0_meanOfLeft 32 = .ok (.getfield 12, 3) := by decide +kernel
theorem dX0_meanOfLeft_35 : decode cX0_meanOfLeft 35 = .ok (.getfield 46, 3) := by decide +kernel
theorem dX0_meanOfLeft_38 : decode cX0_meanOfLeft 38 = .ok (.invokestatic 62, 3) := by decide +kernel
theorem dX0_meanOfLeft_41 : decode cX0_meanOfLeft 41 = .ok (.i2l, 1) := by decide +kernel
theorem dX0_meanOfLeft_42 : decode cX0_meanOfLeft 42 = .ok (.aload_n 1, 1) := by decide +kernel
theorem dX0_meanOfLeft_43 : decode cX0_meanOfLeft 43 = .ok (.iload 5, 2) := by decide +kernel
theorem dX0_meanOfLeft_45 : decode cX0_meanOfLeft 45 = .ok (.iconst (-1), 1) := by decide +kernel
theorem dX0_meanOfLeft_46 : decode cX0_meanOfLeft 46 = .ok (.invokestatic 49, 3) := by decide +kernel
theorem dX0_meanOfLeft_49 : decode cX0_meanOfLeft 49 = .ok (.lmul, 1) := by decide +kernel
theorem dX0_meanOfLeft_50 : decode cX0_meanOfLeft 50 = .ok (.ladd, 1) := by decide +kernel
theorem dX0_meanOfLeft_51 : decode cX0_meanOfLeft 51 = .ok (.lstore_n 3, 1) := by decide +kernel
theorem dX0_meanOfLeft_52 : decode cX0_meanOfLeft 52 = .ok (.iinc 5 1, 3) := by decide +kernel
theorem dX0_meanOfLeft_55 : decode cX0_meanOfLeft 55 = .ok (.goto (-45), 3) := by decide +kernel
theorem dX0_meanOfLeft_58 : decode cX0_meanOfLeft 58 = .ok (.ldc2_w 68, 3) := by decide +kernel
theorem dX0_meanOfLeft_61 : decode cX0_meanOfLeft 61 = .ok (.lload_n 3, 1) := by decide +kernel
theorem dX0_meanOfLeft_62 : decode cX0_meanOfLeft 62 = .ok (.aload_n 1, 1) := by decide +kernel
theorem dX0_meanOfLeft_63 : decode cX0_meanOfLeft 63 = .ok (.getfield 18, 3) := by decide +kernel
theorem dX0_meanOfLeft_66 : decode cX0_meanOfLeft 66 = .ok (.invokestatic 55, 3) := by decide +kernel
theorem dX0_meanOfLeft_69 : decode cX0_meanOfLeft 69 = .ok (.ireturn, 1) := by decide +kernel
theorem dX1_init_0 : decode cX1_init 0 = .ok (.aload_n 0, 1) := by decide +kernel
theorem dX1_init_1 : decode cX1_init 1 = .ok (.invokespecial 3, 3) := by decide +kernel
theorem dX1_init_4 : decode cX1_init 4 = .ok (.aload_n 0, 1) := by decide +kernel
theorem dX1_init_5 : decode cX1_init 5 = .ok (.new 9, 3) := by decide +kernel
theorem dX1_init_8 : decode cX1_init 8 = .ok (.dup, 1) := by decide +kernel
theorem dX1_init_9 : decode cX1_init 9 = .ok (.invokespecial 11, 3) := by decide +kernel
theorem dX1_init_12 : decode cX1_init 12 = .ok (.putfield 12, 3) := by decide +kernel
theorem dX1_init_15 : decode cX1_init 15 = .ok (.return_, 1) := by decide +kernel
theorem dX1_findAway_0 : decode cX1_findAway 0 = .ok (.aload_n 1, 1) := by decide +kernel
theorem dX1_findAway_1 : decode cX1_findAway 1 = .ok (.invokevirtual 18, 3) := by decide +kernel
theorem dX1_findAway_4 : decode cX1_findAway 4 = .ok (.istore_n 3, 1) := by decide +kernel
theorem dX1_findAway_5 : decode cX1_findAway 5 = .ok (.aload_n 0, 1) := by decide +kernel
theorem dX1_findAway_6 : decode cX1_findAway 6 = .ok (.iconst (-1), 1) := by decide +kernel
theorem dX1_findAway_7 : decode cX1_findAway 7 = .ok (.putfield 24, 3) := by decide +kernel
theorem dX1_findAway_10 : decode cX1_findAway 10 = .ok (.aload_n 0, 1) := by decide +kernel
theorem dX1_findAway_11 : decode cX1_findAway 11 = .ok (.iconst (-1), 1) := by decide +kernel
theorem dX1_findAway_12 : decode cX1_findAway 12 = .ok (.putfield 28, 3) := by decide +kernel
theorem dX1_findAway_15 : decode cX1_findAway 15 = .ok (.iconst 0, 1) := by decide +kernel
theorem dX1_findAway_16 : decode cX1_findAway 16 = .ok (.istore 4, 2) := by decide +kernel
theorem dX1_findAway_18 : decode cX1_findAway 18 = .ok (.iload 4, 2) := by decide +kernel
theorem dX1_findAway_20 : decode cX1_findAway 20 = .ok (.iload_n 3, 1) := by decide +kernel
theorem dX1_findAway_21 : decode cX1_findAway 21 = .ok (.if_icmp .gt 97, 3) := by decide +kernel
theorem dX1_findAway_24 : decode cX1_findAway 24 = .ok (.aload_n 0, 1) := by decide +kernel
theorem dX1_findAway_25 : decode cX1_findAway 25 = .ok (.getfield 24, 3) := by decide +kernel
theorem dX1_findAway_28 : decode cX1_findAway 28 = .ok (.iconst (-1), 1) := by decide +kernel
theorem dX1_findAway_29 : decode cX1_findAway 29 = .ok (.if_icmp .eq 15, 3) := by decide +kernel
theorem dX1_findAway_32 : decode cX1_findAway 32 = .ok (.iload 4, 2) := by decide +kernel
theorem dX1_findAway_34 : decode cX1_findAway 34 = .ok (.invokestatic 31, 3) := by decide +kernel
theorem dX1_findAway_37 : decode cX1_findAway 37 = .ok (.aload_n 0, 1) := by decide +kernel
theorem dX1_findAway_38 : decode cX1_findAway 38 = .ok (.getfield 24, 3) := by decide +kernel
theorem dX1_findAway_41 : decode cX1_findAway 41 = .ok (.if_icmp .ge 7, 3) := by decide +kernel
theorem dX1_findAway_44 : decode cX1_findAway 44 = .ok (.iconst 1, 1) := by decide +kernel
theorem dX1_findAway_45 : decode cX1_findAway 45 = .ok (.goto 4, 3) := by decide +kernel
theorem dX1_findAway_48 : decode cX1_findAway 48 = .ok (.iconst 0, 1) := by decide +kernel
theorem dX1_findAway_49 : decode cX1_findAway 49 = .ok (.istore 5, 2) := by decide +kernel
theorem dX1_findAway_51 : decode cX1_findAway 51 = .ok (.iload 4, 2) := by decide +kernel
theorem dX1_findAway_53 : decode cX1_findAway 53 = .ok (.iload_n 2, 1) := by decide +kernel
theorem dX1_findAway_54 : decode cX1_findAway 54 = .ok (.ishr, 1) := by decide +kernel
theorem dX1_findAway_55 : decode cX1_findAway 55 = .ok (.iconst 1, 1) := by decide +kernel
theorem dX1_findAway_56 : decode cX1_findAway 56 = .ok (.iand, 1) := by decide +kernel
theorem dX1_findAway_57 : decode cX1_findAway 57 = .ok (.ifCond .ne 55, 3) := by decide +kernel
theorem dX1_findAway_60 : decode cX1_findAway 60 = .ok (.iload 5, 2) := by decide +kernel
theorem dX1_findAway_62 : decode cX1_findAway 62 = .ok (.ifCond .eq 50, 3) := by decide +kernel
theorem dX1_findAway_65 : decode cX1_findAway 65 = .ok (.aload_n 0, 1) := by decide +kernel
theorem dX1_findAway_66 : decode cX1_findAway 66 = .ok (.getfield 12, 3) := by decide +kernel
theorem dX1_findAway_69 : decode cX1_findAway 69 = .ok (.aload_n 1, 1) := by decide +kernel
theorem dX1_findAway_70 : decode cX1_findAway 70 = .ok (.iload_n 3, 1) := by decide +kernel
theorem dX1_findAway_71 : decode cX1_findAway 71 = .ok (.iload 4, 2) := by decide +kernel
theorem dX1_findAway_73 : decode cX1_findAway 73 = .ok (.iconst (-1), 1) := by decide +kernel
theorem dX1_findAway_74 : decode cX1_findAway 74 = .ok (.ixor, 1) := by decide +kernel
theorem dX1_findAway_75 : decode cX1_findAway 75 = .ok (.iand, 1) := by decide +kernel
theorem dX1_findAway_76 : decode cX1_findAway 76 = .ok (.aload_n 1, 1) := by decide +kernel
theorem dX1_findAway_77 : decode cX1_findAway 77 = .ok (.getfield 37, 3) := by decide +kernel
theorem dX1_findAway_80 : decode cX1_findAway 80 = .ok (.invokevirtual 40, 3) := by decide +kernel
theorem dX1_findAway_83 : decode cX1_findAway 83 = .ok (.aload_n 0, 1) := by decide +kernel
theorem dX1_findAway_84 : decode cX1_findAway 84 = .ok (.getfield 12, 3) := by decide +kernel
theorem dX1_findAway_87 : decode cX1_findAway 87 = .ok (.getfield 44, 3) := by decide +kernel
theorem dX1_findAway_90 : decode cX1_findAway 90 = .ok (.iload_n 2, 1) := by decide +kernel
theorem dX1_findAway_91 : decode cX1_findAway 91 = .ok (.ishr, 1) := by decide +kernel
theorem dX1_findAway_92 : decode cX1_findAway 92 = .ok (.iconst 1, 1) := by decide +kernel
theorem dX1_findAway_93 : decode cX1_findAway 93 = .ok (.iand, 1) := by decide +kernel
theorem dX1_findAway_94 : decode cX1_findAway 94 = .ok (.ifCond .eq 18, 3) := by decide +kernel
theorem dX1_findAway_97 : decode cX1_findAway 97 = .ok (.aload_n 0, 1) := by decide +kernel
theorem dX1_findAway_98 : decode cX1_findAway 98 = .ok (.iload 4, 2) := by decide +kernel
theorem dX1_findAway_100 : decode cX1_findAway 100 = .ok (.invokestatic 31, 3) := by decide +kernel
theorem dX1_findAway_103 : decode cX1_findAway 103 = .ok (.putfield 24, 3) := by decide +kernel
theorem dX1_findAway_106 : decode cX1_findAway 106 = .ok (.aload_n 0, 1) := by decide +kernel
theorem dX1_findAway_107 : decode cX1_findAway 107 = .ok (.iload 4, 2) := by decide +kernel
theorem dX1_findAway_109 : decode cX1_findAway 109 = .ok (.putfield 28, 3) := by decide +kernel
theorem dX1_findAway_112 : decode cX1_findAway 112 = .ok (.iinc 4 1, 3) := by decide +kernel
theorem dX1_findAway_115 : decode cX1_findAway 115 = .ok (.goto (-97), 3) := by decide +kernel
theorem dX1_findAway_118 : decode cX1_findAway 118 = .ok (.return_, 1) := by decide +kernel
theorem dX1_findGladdest_0 : decode cX1_findGladdest 0 = .ok (.aload_n 1, 1) := by decide +kernel
theorem dX1_findGladdest_1 : decode cX1_findGladdest 1 = .ok (.invokevirtual 18, 3) := by decide +kernel
theorem dX1_findGladdest_4 : decode cX1_findGladdest 4 = .ok (.istore_n 3, 1) := by decide +kernel
theorem dX1_findGladdest_5 : decode cX1_findGladdest 5 = .ok (.aload_n 0, 1) := by decide +kernel
theorem dX1_findGladdest_6 : decode cX1_findGladdest 6 = .ok (.iconst (-1), 1) := by decide +kernel
theorem dX1_findGladdest_7 : decode cX1_findGladdest 7 = .ok (.putfield 24, 3) := by decide +kernel
theorem dX1_findGladdest_10 : decode cX1_findGladdest 10 = .ok (.aload_n 0, 1) := by decide +kernel
theorem dX1_findGladdest_11 : decode cX1_findGladdest 11 = .ok (.iconst (-1), 1) := by decide +kernel
theorem dX1_findGladdest_12 : decode cX1_findGladdest 12 = .ok (.putfield 28, 3) := by decide +kernel
theorem dX1_findGladdest_15 : decode cX1_findGladdest 15 = .ok (.iconst 0, 1) := by decide +kernel
theorem dX1_findGladdest_16 : decode cX1_findGladdest 16 = .ok (.istore 4, 2) := by decide +kernel
theorem dX1_findGladdest_18 : decode cX1_findGladdest 18 = .ok (.iload 4, 2) := by decide +kernel
theorem dX1_findGladdest_20 : decode cX1_findGladdest 20 = .ok (.iload_n 3, 1) := by decide +kernel
theorem dX1_findGladdest_21 : decode cX1_findGladdest 21 = .ok (.if_icmp .gt 65, 3) := by decide +kernel
theorem dX1_findGladdest_24 : decode cX1_findGladdest 24 = .ok (.iload 4, 2) := by decide +kernel
theorem dX1_findGladdest_26 : decode cX1_findGladdest 26 = .ok (.invokestatic 31, 3) := by decide +kernel
theorem dX1_findGladdest_29 : decode cX1_findGladdest 29 = .ok (.iload_n 2, 1) := by decide +kernel
theorem dX1_findGladdest_30 : decode cX1_findGladdest 30 = .ok (.if_icmp .ne 50, 3) := by decide +kernel
theorem dX1_findGladdest_33 : decode cX1_findGladdest 33 = .ok (.aload_n 0, 1) := by decide +kernel
theorem dX1_findGladdest_34 : decode cX1_findGladdest 34 = .ok (.getfield 12, 3) := by decide +kernel
theorem dX1_findGladdest_37 : decode cX1_findGladdest 37 = .ok (.aload_n 1, 1) := by decide +kernel
theorem dX1_findGladdest_38 : decode cX1_findGladdest 38 = .ok (.iload 4, 2) := by decide +kernel
theorem dX1_findGladdest_40 : decode cX1_findGladdest 40 = .ok (.aload_n 1, 1) := by decide +kernel
theorem dX1_findGladdest_41 : decode cX1_findGladdest 41 = .ok (.getfield 37, 3) := by decide +kernel
theorem dX1_findGladdest_44 : decode cX1_findGladdest 44 = .ok (.invokevirtual 40, 3) := by decide +kernel
theorem dX1_findGladdest_47 : decode cX1_findGladdest 47 = .ok (.aload_n 0, 1) := by decide +kernel
theorem dX1_findGladdest_48 : decode cX1_findGladdest 48 = .ok (.getfield 12, 3) := by decide +kernel
theorem dX1_findGladdest_51 : decode cX1_findGladdest 51 = .ok (.getfield 44, 3) := by decide +kernel
theorem dX1_findGladdest_54 : decode cX1_findGladdest 54 = .ok (.invokestatic 31, 3) := by decide +kernel
theorem dX1_findGladdest_57 : decode cX1_findGladdest 57 = .ok (.istore 5, 2) := by decide +kernel
theorem dX1_findGladdest_59 : decode cX1_findGladdest 59 = .ok (.iload 5, 2) := by decide +kernel
theorem dX1_findGladdest_61 : decode cX1_findGladdest 61 = .ok (.aload_n 0, 1) := by decide +kernel
theorem dX1_findGladdest_62 : decode cX1_findGladdest 62 = .ok (.getfield 24, 3) := by decide +kernel
theorem dX1_findGladdest_65 : decode cX1_findGladdest 65 = .ok (.if_icmp .le 15, 3) := by decide +kernel
theorem dX1_findGladdest_68 : decode cX1_findGladdest 68 = .ok (.aload_n 0, 1) := by decide +kernel
theorem dX1_findGladdest_69 : decode cX1_findGladdest 69 = .ok (.iload 5, 2) := by decide +kernel
theorem dX1_findGladdest_71 : decode cX1_findGladdest 71 = .ok (.putfield 24, 3) := by decide +kernel
theorem dX1_findGladdest_74 : decode cX1_findGladdest 74 = .ok (.aload_n 0, 1) := by decide +kernel
theorem dX1_findGladdest_75 : decode cX1_findGladdest 75 = .ok (.iload 4, 2) := by decide +kernel
theorem dX1_findGladdest_77 : decode cX1_findGladdest 77 = .ok (.putfield 28, 3) := by decide +kernel
theorem dX1_findGladdest_80 : decode cX1_findGladdest 80 = .ok (.iinc 4 1, 3) := by decide +kernel
theorem dX1_findGladdest_83 : decode cX1_findGladdest 83 = .ok (.goto (-65), 3) := by decide +kernel
theorem dX1_findGladdest_86 : decode cX1_findGladdest 86 = .ok (.return_, 1) := by decide +kernel
theorem dX1_findLeaving_0 : decode cX1_findLeaving 0 = .ok (.aload_n 1, 1) := by decide +kernel
theorem dX1_findLeaving_1 : decode cX1_findLeaving 1 = .ok (.invokevirtual 18, 3) := by decide +kernel
theorem dX1_findLeaving_4 : decode cX1_findLeaving 4 = .ok (.istore_n 3, 1) := by decide +kernel
theorem dX1_findLeaving_5 : decode cX1_findLeaving 5 = .ok (.aload_n 0, 1) := by decide +kernel
theorem dX1_findLeaving_6 : decode cX1_findLeaving 6 = .ok (.iconst 0, 1) := by decide +kernel
theorem dX1_findLeaving_7 : decode cX1_findLeaving 7 = .ok (.putfield 24, 3) := by decide +kernel
theorem dX1_findLeaving_10 : decode cX1_findLeaving 10 = .ok (.aload_n 0, 1) := by decide +kernel
theorem dX1_findLeaving_11 : decode cX1_findLeaving 11 = .ok (.iconst (-1), 1) := by decide +kernel
theorem dX1_findLeaving_12 : decode cX1_findLeaving 12 = .ok (.putfield 28, 3) := by decide +kernel
theorem dX1_findLeaving_15 : decode cX1_findLeaving 15 = .ok (.aload_n 0, 1) := by decide +kernel
theorem dX1_findLeaving_16 : decode cX1_findLeaving 16 = .ok (.iconst (-1), 1) := by decide +kernel
theorem dX1_findLeaving_17 : decode cX1_findLeaving 17 = .ok (.putfield 47, 3) := by decide +kernel
theorem dX1_findLeaving_20 : decode cX1_findLeaving 20 = .ok (.aload_n 0, 1) := by decide +kernel
theorem dX1_findLeaving_21 : decode cX1_findLeaving 21 = .ok (.iconst 0, 1) := by decide +kernel
theorem dX1_findLeaving_22 : decode cX1_findLeaving 22 = .ok (.putfield 50, 3) := by decide +kernel
theorem dX1_findLeaving_25 : decode cX1_findLeaving 25 = .ok (.iconst 0, 1) := by decide +kernel
theorem dX1_findLeaving_26 : decode cX1_findLeaving 26 = .ok (.istore 4, 2) := by decide +kernel
theorem dX1_findLeaving_28 : decode cX1_findLeaving 28 = .ok (.iload 4, 2) := by decide +kernel
theorem dX1_findLeaving_30 : decode cX1_findLeaving 30 = .ok (.iload_n 3, 1) := by decide +kernel
theorem dX1_findLeaving_31 : decode cX1_findLeaving 31 = .ok (.if_icmp .gt 98, 3) := by decide +kernel
theorem dX1_findLeaving_34 : decode cX1_findLeaving 34 = .ok (.aload_n 0, 1) := by decide +kernel
theorem dX1_findLeaving_35 : decode cX1_findLeaving 35 = .ok (.getfield 12, 3) := by decide +kernel
theorem dX1_findLeaving_38 : decode cX1_findLeaving 38 = .ok (.aload_n 1, 1) := by decide +kernel
theorem dX1_findLeaving_39 : decode cX1_findLeaving 39 = .ok (.iload 4, 2) := by decide +kernel
theorem dX1_findLeaving_41 : decode cX1_findLeaving 41 = .ok (.aload_n 1, 1) := by decide +kernel
theorem dX1_findLeaving_42 : decode cX1_findLeaving 42 = .ok (.getfield 37, 3) := by decide +kernel
theorem dX1_findLeaving_45 : decode cX1_findLeaving 45 = .ok (.invokevirtual 40, 3) := by decide +kernel
theorem dX1_findLeaving_48 : decode cX1_findLeaving 48 = .ok (.aload_n 0, 1) := by decide +kernel
theorem dX1_findLeaving_49 : decode cX1_findLeaving 49 = .ok (.getfield 12, 3) := by decide +kernel
theorem dX1_findLeaving_52 : decode cX1_findLeaving 52 = .ok (.getfield 53, 3) := by decide +kernel
theorem dX1_findLeaving_55 : decode cX1_findLeaving 55 = .ok (.iload_n 2, 1) := by decide +kernel
theorem dX1_findLeaving_56 : decode cX1_findLeaving 56 = .ok (.if_icmp .ne 67, 3) := by decide +kernel
theorem dX1_findLeaving_59 : decode cX1_findLeaving 59 = .ok (.aload_n 0, 1) := by decide +kernel
theorem dX1_findLeaving_60 : decode cX1_findLeaving 60 = .ok (.aload_n 0, 1) := by decide +kernel
theorem dX1_findLeaving_61 : decode cX1_findLeaving 61 = .ok (.getfield 24, 3) := by decide +kernel
theorem dX1_findLeaving_64 : decode cX1_findLeaving 64 = .ok (.ifCond .ne 8, 3) := by decide +kernel
theorem dX1_findLeaving_67 : decode cX1_findLeaving 67 = .ok (.iload 4, 2) := by decide +kernel
theorem dX1_findLeaving_69 : decode cX1_findLeaving 69 = .ok (.goto 7, 3) := by decide +kernel
theorem dX1_findLeaving_72 : decode cX1_findLeaving 72 = .ok (.aload_n 0, 1) := by decide +kernel
theorem dX1_findLeaving_73 : decode cX1_findLeaving 73 = .ok (.getfield 28, 3) := by decide +kernel
theorem dX1_findLeaving_76 : decode cX1_findLeaving 76 = .ok (.putfield 28, 3) := by decide +kernel
theorem dX1_findLeaving_79 : decode cX1_findLeaving 79 = .ok (.aload_n 0, 1) := by decide +kernel
theorem dX1_findLeaving_80 : decode cX1_findLeaving 80 = .ok (.aload_n 0, 1) := by decide +kernel
theorem dX1_findLeaving_81 : decode cX1_findLeaving 81 = .ok (.getfield 24, 3) := by decide +kernel
theorem dX1_findLeaving_84 : decode cX1_findLeaving 84 = .ok (.ifCond .ne 8, 3) := by decide +kernel
theorem dX1_findLeaving_87 : decode cX1_findLeaving 87 = .ok (.iload 4, 2) := by decide +kernel
theorem dX1_findLeaving_89 : decode cX1_findLeaving 89 = .ok (.goto 10, 3) := by decide +kernel
theorem dX1_findLeaving_92 : decode cX1_findLeaving 92 = .ok (.aload_n 0, 1) := by decide +kernel
theorem dX1_findLeaving_93 : decode cX1_findLeaving 93 = .ok (.getfield 47, 3) := by decide +kernel
theorem dX1_findLeaving_96 : decode cX1_findLeaving 96 = .ok (.iload 4, 2) := by decide +kernel
theorem dX1_findLeaving_98 : decode cX1_findLeaving 98 = .ok (.iand, 1) := by decide +kernel
theorem dX1_findLeaving_99 : decode cX1_findLeaving 99 = .ok (.putfield 47, 3) := by decide +kernel
theorem dX1_findLeaving_102 : decode cX1_findLeaving 102 = .ok (.aload_n 0, 1) := by decide +kernel
theorem dX1_findLeaving_103 : decode cX1_findLeaving 103 = .ok (.dup, 1) := by decide +kernel
theorem dX1_findLeaving_104 : decode cX1_findLeaving 104 = .ok (.getfield 50, 3) := by decide +kernel
theorem dX1_findLeaving_107 : decode cX1_findLeaving 107 = .ok (.iload 4, 2) := by decide +kernel
theorem dX1_findLeaving_109 : decode cX1_findLeaving 109 = .ok (.ior, 1) := by decide +kernel
theorem dX1_findLeaving_110 : decode cX1_findLeaving 110 = .ok (.putfield 50, 3) := by decide +kernel
theorem dX1_findLeaving_113 : decode cX1_findLeaving 113 = .ok (.aload_n 0, 1) := by decide +kernel
theorem dX1_findLeaving_114 : decode cX1_findLeaving 114 = .ok (.dup, 1) := by decide +kernel
theorem dX1_findLeaving_115 : decode cX1_findLeaving 115 = .ok (.getfield 24, 3) := by decide +kernel
theorem dX1_findLeaving_118 : decode cX1_findLeaving 118 = .ok (.iconst 1, 1) := by decide +kernel
theorem dX1_findLeaving_119 : decode cX1_findLeaving 119 = .ok (.iadd, 1) := by decide +kernel
theorem dX1_findLeaving_120 : decode cX1_findLeaving 120 = .ok (.putfield 24, 3) := by decide +kernel
theorem dX1_findLeaving_123 : decode cX1_findLeaving 123 = .ok (.iinc 4 1, 3) := by decide +kernel
theorem dX1_findLeaving_126 : decode cX1_findLeaving 126 = .ok (.goto (-98), 3) := by decide +kernel
theorem dX1_findLeaving_129 : decode cX1_findLeaving 129 = .ok (.return_, 1) := by decide +kernel
theorem dX2_init_0 : decode cX2_init 0 = .ok (.aload_n 0, 1) := by decide +kernel
theorem dX2_init_1 : decode cX2_init 1 = .ok (.invokespecial 3, 3) := by decide +kernel
theorem dX2_init_4 : decode cX2_init 4 = .ok (.aload_n 0, 1) := by decide +kernel
theorem dX2_init_5 : decode cX2_init 5 = .ok (.bipush 8, 2) := by decide +kernel
theorem dX2_init_7 : decode cX2_init 7 = .ok (.newarray .int, 2) := by decide +kernel
theorem dX2_init_9 : decode cX2_init 9 = .ok (.putfield 9, 3) := by decide +kernel
theorem dX2_init_12 : decode cX2_init 12 = .ok (.return_, 1) := by decide +kernel
theorem dX2_run_0 : decode cX2_run 0 = .ok (.aload_n 0, 1) := by decide +kernel
theorem dX2_run_1 : decode cX2_run 1 = .ok (.iload_n 3, 1) := by decide +kernel
theorem dX2_run_2 : decode cX2_run 2 = .ok (.putfield 15, 3) := by decide +kernel
theorem dX2_run_5 : decode cX2_run 5 = .ok (.aload_n 0, 1) := by decide +kernel
theorem dX2_run_6 : decode cX2_run 6 = .ok (.iconst 0, 1) := by decide +kernel
theorem dX2_run_7 : decode cX2_run 7 = .ok (.putfield 19, 3) := by decide +kernel
theorem dX2_run_10 : decode cX2_run 10 = .ok (.aload_n 0, 1) := by decide +kernel
theorem dX2_run_11 : decode cX2_run 11 = .ok (.iconst 0, 1) := by decide +kernel
theorem dX2_run_12 : decode cX2_run 12 = .ok (.putfield 22, 3) := by decide +kernel
theorem dX2_run_15 : decode cX2_run 15 = .ok (.iconst 0, 1) := by decide +kernel
theorem dX2_run_16 : decode cX2_run 16 = .ok (.istore 4, 2) := by decide +kernel
theorem dX2_run_18 : decode cX2_run 18 = .ok (.iload 4, 2) := by decide +kernel
theorem dX2_run_20 : decode cX2_run 20 = .ok (.aload_n 1, 1) := by decide +kernel
theorem dX2_run_21 : decode cX2_run 21 = .ok (.getfield 25, 3) := by decide +kernel
theorem dX2_run_24 : decode cX2_run 24 = .ok (.if_icmp .ge 138, 3) := by decide +kernel
theorem dX2_run_27 : decode cX2_run 27 = .ok (.aload_n 1, 1) := by decide +kernel
theorem dX2_run_28 : decode cX2_run 28 = .ok (.getfield 30, 3) := by decide +kernel
theorem dX2_run_31 : decode cX2_run 31 = .ok (.iload 4, 2) := by decide +kernel
theorem dX2_run_33 : decode cX2_run 33 = .ok (.iaload, 1) := by decide +kernel
theorem dX2_run_34 : decode cX2_run 34 = .ok (.istore 5, 2) := by decide +kernel
theorem dX2_run_36 : decode cX2_run 36 = .ok (.aload_n 1, 1) := by decide +kernel
theorem dX2_run_37 : decode cX2_run 37 = .ok (.getfield 33, 3) := by decide +kernel
theorem dX2_run_40 : decode cX2_run 40 = .ok (.iload 5, 2) := by decide +kernel
theorem dX2_run_42 : decode cX2_run 42 = .ok (.aaload, 1) := by decide +kernel
theorem dX2_run_43 : decode cX2_run 43 = .ok (.astore 6, 2) := by decide +kernel
theorem dX2_run_45 : decode cX2_run 45 = .ok (.iload_n 2, 1) := by decide +kernel
theorem dX2_run_46 : decode cX2_run 46 = .ok (.iload 5, 2) := by decide +kernel
theorem dX2_run_48 : decode cX2_run 48 = .ok (.ishr, 1) := by decide +kernel
theorem dX2_run_49 : decode cX2_run 49 = .ok (.iconst 1, 1) := by decide +kernel
theorem dX2_run_50 : decode cX2_run 50 = .ok (.iand, 1) := by decide +kernel
theorem dX2_run_51 : decode cX2_run 51 = .ok (.ifCond .eq 7, 3) := by decide +kernel
theorem dX2_run_54 : decode cX2_run 54 = .ok (.iconst 1, 1) := by decide +kernel
theorem dX2_run_55 : decode cX2_run 55 = .ok (.goto 4, 3) := by decide +kernel
theorem dX2_run_58 : decode cX2_run 58 = .ok (.iconst 0, 1) := by decide +kernel
theorem dX2_run_59 : decode cX2_run 59 = .ok (.istore 7, 2) := by decide +kernel
theorem dX2_run_61 : decode cX2_run 61 = .ok (.iload 7, 2) := by decide +kernel
theorem dX2_run_63 : decode cX2_run 63 = .ok (.ifCond .eq 16, 3) := by decide +kernel
theorem dX2_run_66 : decode cX2_run 66 = .ok (.aload_n 1, 1) := by decide +kernel
theorem dX2_run_67 : decode cX2_run 67 = .ok (.aload 6, 2) := by decide +kernel
theorem dX2_run_69 : decode cX2_run 69 = .ok (.aload_n 0, 1) := by decide +kernel
theorem dX2_run_70 : decode cX2_run 70 = .ok (.getfield 15, 3) := by decide +kernel
theorem dX2_run_73 : decode cX2_run 73 = .ok (.invokevirtual 37, 3) := by decide +kernel
theorem dX2_run_76 : decode cX2_run 76 = .ok (.goto 4, 3) := by decide +kernel
theorem dX2_run_79 : decode cX2_run 79 = .ok (.iconst 0, 1) := by decide +kernel
theorem dX2_run_80 : decode cX2_run 80 = .ok (.istore 8, 2) := by decide +kernel
theorem dX2_run_82 : decode cX2_run 82 = .ok (.aload_n 0, 1) := by decide +kernel
theorem dX2_run_83 : decode cX2_run 83 = .ok (.getfield 9, 3) := by decide +kernel
theorem dX2_run_86 : decode cX2_run 86 = .ok (.iload 5, 2) := by decide +kernel
theorem dX2_run_88 : decode cX2_run 88 = .ok (.iload 8, 2) := by decide +kernel
theorem dX2_run_90 : decode cX2_run 90 = .ok (.iastore, 1) := by decide +kernel
theorem dX2_run_91 : decode cX2_run 91 = .ok (.aload_n 0, 1) := by decide +kernel
theorem dX2_run_92 : decode cX2_run 92 = .ok (.dup, 1) := by decide +kernel
theorem dX2_run_93 : decode cX2_run 93 = .ok (.getfield 15, 3) := by decide +kernel
theorem dX2_run_96 : decode cX2_run 96 = .ok (.iload 8, 2) := by decide +kernel
theorem dX2_run_98 : decode cX2_run 98 = .ok (.iconst (-1), 1) := by decide +kernel
theorem dX2_run_99 : decode cX2_run 99 = .ok (.ixor, 1) := by decide +kernel
theorem dX2_run_100 : decode cX2_run 100 = .ok (.iand, 1) := by decide +kernel
theorem dX2_run_101 : decode cX2_run 101 = .ok (.putfield 15, 3) := by decide +kernel
theorem dX2_run_104 : decode cX2_run 104 = .ok (.iload 8, 2) := by decide +kernel
theorem dX2_run_106 : decode cX2_run 106 = .ok (.aload_n 1, 1) := by decide +kernel
theorem dX2_run_107 : decode cX2_run 107 = .ok (.getfield 41, 3) := by decide +kernel
theorem dX2_run_110 : decode cX2_run 110 = .ok (.aload 6, 2) := by decide +kernel
theorem dX2_run_112 : decode cX2_run 112 = .ok (.getfield 44, 3) := by decide +kernel
theorem dX2_run_115 : decode cX2_run 115 = .ok (.iaload, 1) := by decide +kernel
theorem dX2_run_116 : decode cX2_run 116 = .ok (.iand, 1) := by decide +kernel
theorem dX2_run_117 : decode cX2_run 117 = .ok (.ifCond .eq 16, 3) := by decide +kernel
theorem dX2_run_120 : decode cX2_run 120 = .ok (.aload_n 0, 1) := by decide +kernel
theorem dX2_run_121 : decode cX2_run 121 = .ok (.dup, 1) := by decide +kernel
theorem dX2_run_122 : decode cX2_run 122 = .ok (.getfield 19, 3) := by decide +kernel
theorem dX2_run_125 : decode cX2_run 125 = .ok (.iconst 1, 1) := by decide +kernel
theorem dX2_run_126 : decode cX2_run 126 = .ok (.iload 5, 2) := by decide +kernel
theorem dX2_run_128 : decode cX2_run 128 = .ok (.ishl, 1) := by decide +kernel
theorem dX2_run_129 : decode cX2_run 129 = .ok (.ior, 1) := by decide +kernel
theorem dX2_run_130 : decode cX2_run 130 = .ok (.putfield 19, 3) := by decide +kernel
theorem dX2_run_133 : decode cX2_run 133 = .ok (.iload 7, 2) := by decide +kernel
theorem dX2_run_135 : decode cX2_run 135 = .ok (.ifCond .eq 21, 3) := by decide +kernel
theorem dX2_run_138 : decode cX2_run 138 = .ok (.iload 8, 2) := by decide +kernel
theorem dX2_run_140 : decode cX2_run 140 = .ok (.ifCond .ne 16, 3) := by decide +kernel
theorem dX2_run_143 : decode cX2_run 143 = .ok (.aload_n 0, 1) := by decide +kernel
theorem dX2_run_144 : decode cX2_run 144 = .ok (.dup, 1) := by decide +kernel
theorem dX2_run_145 : decode cX2_run 145 = .ok (.getfield 22, 3) := by decide +kernel
theorem dX2_run_148 : decode cX2_run 148 = .ok (.iconst 1, 1) := by decide +kernel
theorem dX2_run_149 : decode cX2_run 149 = .ok (.iload 5, 2) := by decide +kernel
theorem dX2_run_151 : decode cX2_run 151 = .ok (.ishl, 1) := by decide +kernel
theorem dX2_run_152 : decode cX2_run 152 = .ok (.ior, 1) := by decide +kernel
theorem dX2_run_153 : decode cX2_run 153 = .ok (.putfield 22, 3) := by decide +kernel
theorem dX2_run_156 : decode cX2_run 156 = .ok (.iinc 4 1, 3) := by decide +kernel
theorem dX2_run_159 : decode cX2_run 159 = .ok (.goto (-141), 3) := by decide +kernel
theorem dX2_run_162 : decode cX2_run 162 = .ok (.return_, 1) := by decide +kernel
theorem dX2_runInTruth_0 : decode cX2_runInTruth 0 = .ok (.aload_n 1, 1) := by decide +kernel
theorem dX2_runInTruth_1 : decode cX2_runInTruth 1 = .ok (.getfield 49, 3) := by decide +kernel
theorem dX2_runInTruth_4 : decode cX2_runInTruth 4 = .ok (.istore_n 3, 1) := by decide +kernel
theorem dX2_runInTruth_5 : decode cX2_runInTruth 5 = .ok (.aload_n 0, 1) := by decide +kernel
theorem dX2_runInTruth_6 : decode cX2_runInTruth 6 = .ok (.aload_n 1, 1) := by decide +kernel
theorem dX2_runInTruth_7 : decode cX2_runInTruth 7 = .ok (.iload_n 2, 1) := by decide +kernel
theorem dX2_runInTruth_8 : decode cX2_runInTruth 8 = .ok (.iload_n 3, 1) := by decide +kernel
theorem dX2_runInTruth_9 : decode cX2_runInTruth 9 = .ok (.invokevirtual 52, 3) := by decide +kernel
theorem dX2_runInTruth_12 : decode cX2_runInTruth 12 = .ok (.iconst 0, 1) := by decide +kernel
theorem dX2_runInTruth_13 : decode cX2_runInTruth 13 = .ok (.istore 4, 2) := by decide +kernel
theorem dX2_runInTruth_15 : decode cX2_runInTruth 15 = .ok (.iload 4, 2) := by decide +kernel
theorem dX2_runInTruth_17 : decode cX2_runInTruth 17 = .ok (.aload_n 1, 1) := by decide +kernel
theorem dX2_runInTruth_18 : decode cX2_runInTruth 18 = .ok (.getfield 25, 3) := by decide +kernel
theorem dX2_runInTruth_21 : decode cX2_runInTruth 21 = .ok (.if_icmp .ge 16, 3) := by decide +kernel
theorem dX2_runInTruth_24 : decode cX2_runInTruth 24 = .ok (.aload_n 0, 1) := by decide +kernel
theorem dX2_runInTruth_25 : decode cX2_runInTruth 25 = .ok (.aload_n 1, 1) := by decide +kernel
theorem dX2_runInTruth_26 : decode cX2_runInTruth 26 = .ok (.iload 4, 2) := by decide +kernel
theorem dX2_runInTruth_28 : decode cX2_runInTruth 28 = .ok (.invokevirtual 56, 3) := by decide +kernel
theorem dX2_runInTruth_31 : decode cX2_runInTruth 31 = .ok (.iinc 4 1, 3) := by decide +kernel
theorem dX2_runInTruth_34 : decode cX2_runInTruth 34 = .ok (.goto (-19), 3) := by decide +kernel
theorem dX2_runInTruth_37 : decode cX2_runInTruth 37 = .ok (.iload_n 3, 1) := by decide +kernel
theorem dX2_runInTruth_38 : decode cX2_runInTruth 38 = .ok (.aload_n 0, 1) := by decide +kernel
theorem dX2_runInTruth_39 : decode cX2_runInTruth 39 = .ok (.getfield 15, 3) := by decide +kernel
theorem dX2_runInTruth_42 : decode cX2_runInTruth 42 = .ok (.iconst (-1), 1) := by decide +kernel
theorem dX2_runInTruth_43 : decode cX2_runInTruth 43 = .ok (.ixor, 1) := by decide +kernel
theorem dX2_runInTruth_44 : decode cX2_runInTruth 44 = .ok (.iand, 1) := by decide +kernel
theorem dX2_runInTruth_45 : decode cX2_runInTruth 45 = .ok (.istore 4, 2) := by decide +kernel
theorem dX2_runInTruth_47 : decode cX2_runInTruth 47 = .ok (.iconst 0, 1) := by decide +kernel
theorem dX2_runInTruth_48 : decode cX2_runInTruth 48 = .ok (.istore 5, 2) := by decide +kernel
theorem dX2_runInTruth_50 : decode cX2_runInTruth 50 = .ok (.iload 5, 2) := by decide +kernel
theorem dX2_runInTruth_52 : decode cX2_runInTruth 52 = .ok (.bipush 12, 2) := by decide +kernel
theorem dX2_runInTruth_54 : decode cX2_runInTruth 54 = .ok (.if_icmp .ge 26, 3) := by decide +kernel
theorem dX2_runInTruth_57 : decode cX2_runInTruth 57 = .ok (.iload 4, 2) := by decide +kernel
theorem dX2_runInTruth_59 : decode cX2_runInTruth 59 = .ok (.iload 5, 2) := by decide +kernel
theorem dX2_runInTruth_61 : decode cX2_runInTruth 61 = .ok (.ishr, 1) := by decide +kernel
theorem dX2_runInTruth_62 : decode cX2_runInTruth 62 = .ok (.iconst 1, 1) := by decide +kernel
theorem dX2_runInTruth_63 : decode cX2_runInTruth 63 = .ok (.iand, 1) := by decide +kernel
theorem dX2_runInTruth_64 : decode cX2_runInTruth 64 = .ok (.ifCond .eq 10, 3) := by decide +kernel
theorem dX2_runInTruth_67 : decode cX2_runInTruth 67 = .ok (.aload_n 1, 1) := by decide +kernel
theorem dX2_runInTruth_68 : decode cX2_runInTruth 68 = .ok (.iload 5, 2) := by decide +kernel
theorem dX2_runInTruth_70 : decode cX2_runInTruth 70 = .ok (.iconst (-1), 1) := by decide +kernel
theorem dX2_runInTruth_71 : decode cX2_runInTruth 71 = .ok (.invokevirtual 60, 3) := by decide +kernel
theorem dX2_runInTruth_74 : decode cX2_runInTruth 74 = .ok (.iinc 5 1, 3) := by decide +kernel
theorem dX2_runInTruth_77 : decode cX2_runInTruth 77 = .ok (.goto (-27), 3) := by decide +kernel
theorem dX2_runInTruth_80 : decode cX2_runInTruth 80 = .ok (.aload_n 1, 1) := by decide +kernel
theorem dX2_runInTruth_81 : decode cX2_runInTruth 81 = .ok (.dup, 1) := by decide +kernel
theorem dX2_runInTruth_82 : decode cX2_runInTruth 82 = .ok (.getfield 64, 3) := by decide +kernel
theorem dX2_runInTruth_85 : decode cX2_runInTruth 85 = .ok (.iconst 1, 1) := by decide +kernel
theorem dX2_runInTruth_86 : decode cX2_runInTruth 86 = .ok (.iadd, 1) := by decide +kernel
theorem dX2_runInTruth_87 : decode cX2_runInTruth 87 = .ok (.putfield 64, 3) := by decide +kernel
theorem dX2_runInTruth_90 : decode cX2_runInTruth 90 = .ok (.iload 4, 2) := by decide +kernel
theorem dX2_runInTruth_92 : decode cX2_runInTruth 92 = .ok (.invokestatic 67, 3) := by decide +kernel
theorem dX2_runInTruth_95 : decode cX2_runInTruth 95 = .ok (.ireturn, 1) := by decide +kernel
theorem dX2_handOver_0 : decode cX2_handOver 0 = .ok (.aload_n 1, 1) := by decide +kernel
theorem dX2_handOver_1 : decode cX2_handOver 1 = .ok (.getfield 33, 3) := by decide +kernel
theorem dX2_handOver_4 : decode cX2_handOver 4 = .ok (.iload_n 2, 1) := by decide +kernel
theorem dX2_handOver_5 : decode cX2_handOver 5 = .ok (.aaload, 1) := by decide +kernel
theorem dX2_handOver_6 : decode cX2_handOver 6 = .ok (.astore_n 3, 1) := by decide +kernel
theorem dX2_handOver_7 : decode cX2_handOver 7 = .ok (.aload_n 1, 1) := by decide +kernel
theorem dX2_handOver_8 : decode cX2_handOver 8 = .ok (.aload_n 3, 1) := by decide +kernel
theorem dX2_handOver_9 : decode cX2_handOver 9 = .ok (.aload_n 0, 1) := by decide +kernel
theorem dX2_handOver_10 : decode cX2_handOver 10 = .ok (.getfield 9, 3) := by decide +kernel
theorem dX2_handOver_13 : decode cX2_handOver 13 = .ok (.iload_n 2, 1) := by decide +kernel
theorem dX2_handOver_14 : decode cX2_handOver 14 = .ok (.iaload, 1) := by decide +kernel
theorem dX2_handOver_15 : decode cX2_handOver 15 = .ok (.invokevirtual 73, 3) := by decide +kernel
theorem dX2_handOver_18 : decode cX2_handOver 18 = .ok (.istore 4, 2) := by decide +kernel
theorem dX2_handOver_20 : decode cX2_handOver 20 = .ok (.iconst 0, 1) := by decide +kernel
theorem dX2_handOver_21 : decode cX2_handOver 21 = .ok (.istore 5, 2) := by decide +kernel
theorem dX2_handOver_23 : decode cX2_handOver 23 = .ok (.iload 5, 2) := by decide +kernel
theorem dX2_handOver_25 : decode cX2_handOver 25 = .ok (.bipush 12, 2) := by decide +kernel
theorem dX2_handOver_27 : decode cX2_handOver 27 = .ok (.if_icmp .ge 52, 3) := by decide +kernel
theorem dX2_handOver_30 : decode cX2_handOver 30 = .ok (.aload_n 0, 1) := by decide +kernel
theorem dX2_handOver_31 : decode cX2_handOver 31 = .ok (.getfield 9, 3) := by decide +kernel
theorem dX2_handOver_34 : decode cX2_handOver 34 = .ok (.iload_n 2, 1) := by decide +kernel
theorem dX2_handOver_35 : decode cX2_handOver 35 = .ok (.iaload, 1) := by decide +kernel
theorem dX2_handOver_36 : decode cX2_handOver 36 = .ok (.iload 5, 2) := by decide +kernel
theorem dX2_handOver_38 : decode cX2_handOver 38 = .ok (.ishr, 1) := by decide +kernel
theorem dX2_handOver_39 : decode cX2_handOver 39 = .ok (.iconst 1, 1) := by decide +kernel
theorem dX2_handOver_40 : decode cX2_handOver 40 = .ok (.iand, 1) := by decide +kernel
theorem dX2_handOver_41 : decode cX2_handOver 41 = .ok (.ifCond .eq 14, 3) := by decide +kernel
theorem dX2_handOver_44 : decode cX2_handOver 44 = .ok (.aload_n 3, 1) := by decide +kernel
theorem dX2_handOver_45 : decode cX2_handOver 45 = .ok (.aload_n 1, 1) := by decide +kernel
theorem dX2_handOver_46 : decode cX2_handOver 46 = .ok (.getfield 76, 3) := by decide +kernel
theorem dX2_handOver_49 : decode cX2_handOver 49 = .ok (.iload 5, 2) := by decide +kernel
theorem dX2_handOver_51 : decode cX2_handOver 51 = .ok (.iaload, 1) := by decide +kernel
theorem dX2_handOver_52 : decode cX2_handOver 52 = .ok (.invokevirtual 79, 3) := by decide +kernel
theorem dX2_handOver_55 : decode cX2_handOver 55 = .ok (.iload 5, 2) := by decide +kernel
theorem dX2_handOver_57 : decode cX2_handOver 57 = .ok (.iload 4, 2) := by decide +kernel
theorem dX2_handOver_59 : decode cX2_handOver 59 = .ok (.if_icmp .ne 14, 3) := by decide +kernel
theorem dX2_handOver_62 : decode cX2_handOver 62 = .ok (.aload_n 3, 1) := by decide +kernel
theorem dX2_handOver_63 : decode cX2_handOver 63 = .ok (.aload_n 1, 1) := by decide +kernel
theorem dX2_handOver_64 : decode cX2_handOver 64 = .ok (.getfield 76, 3) := by decide +kernel
theorem dX2_handOver_67 : decode cX2_handOver 67 = .ok (.iload 5, 2) := by decide +kernel
theorem dX2_handOver_69 : decode cX2_handOver 69 = .ok (.iaload, 1) := by decide +kernel
theorem dX2_handOver_70 : decode cX2_handOver 70 = .ok (.putfield 83, 3) := by decide +kernel
theorem dX2_handOver_73 : decode cX2_handOver 73 = .ok (.iinc 5 1, 3) := by decide +kernel
theorem dX2_handOver_76 : decode cX2_handOver 76 = .ok (.goto (-53), 3) := by decide +kernel
theorem dX2_handOver_79 : decode cX2_handOver 79 = .ok (.return_, 1) := by decide +kernel
theorem dX3_init_0 : decode cX3_init 0 = .ok (.aload_n 0, 1) := by decide +kernel
theorem dX3_init_1 : decode cX3_init 1 = .ok (.invokespecial 3, 3) := by decide +kernel
theorem dX3_init_4 : decode cX3_init 4 = .ok (.aload_n 0, 1) := by decide +kernel
theorem dX3_init_5 : decode cX3_init 5 = .ok (.bipush 8, 2) := by decide +kernel
theorem dX3_init_7 : decode cX3_init 7 = .ok (.newarray .int, 2) := by decide +kernel
theorem dX3_init_9 : decode cX3_init 9 = .ok (.putfield 9, 3) := by decide +kernel
theorem dX3_init_12 : decode cX3_init 12 = .ok (.return_, 1) := by decide +kernel
theorem dX3_begin_0 : decode cX3_begin 0 = .ok (.aload_n 0, 1) := by decide +kernel
theorem dX3_begin_1 : decode cX3_begin 1 = .ok (.iload_n 1, 1) := by decide +kernel
theorem dX3_begin_2 : decode cX3_begin 2 = .ok (.putfield 15, 3) := by decide +kernel
theorem dX3_begin_5 : decode cX3_begin 5 = .ok (.aload_n 0, 1) := by decide +kernel
theorem dX3_begin_6 : decode cX3_begin 6 = .ok (.iload_n 2, 1) := by decide +kernel
theorem dX3_begin_7 : decode cX3_begin 7 = .ok (.putfield 19, 3) := by decide +kernel
theorem dX3_begin_10 : decode cX3_begin 10 = .ok (.aload_n 0, 1) := by decide +kernel
theorem dX3_begin_11 : decode cX3_begin 11 = .ok (.iload_n 3, 1) := by decide +kernel
theorem dX3_begin_12 : decode cX3_begin 12 = .ok (.putfield 22, 3) := by decide +kernel
theorem dX3_begin_15 : decode cX3_begin 15 = .ok (.aload_n 0, 1) := by decide +kernel
theorem dX3_begin_16 : decode cX3_begin 16 = .ok (.iconst 0, 1) := by decide +kernel
theorem dX3_begin_17 : decode cX3_begin 17 = .ok (.putfield 25, 3) := by decide +kernel
theorem dX3_begin_20 : decode cX3_begin 20 = .ok (.aload_n 0, 1) := by decide +kernel
theorem dX3_begin_21 : decode cX3_begin 21 = .ok (.bipush 6, 2) := by decide +kernel
theorem dX3_begin_23 : decode cX3_begin 23 = .ok (.putfield 28, 3) := by decide +kernel
theorem dX3_begin_26 : decode cX3_begin 26 = .ok (.aload_n 0, 1) := by decide +kernel
theorem dX3_begin_27 : decode cX3_begin 27 = .ok (.iconst (-1), 1) := by decide +kernel
theorem dX3_begin_28 : decode cX3_begin 28 = .ok (.putfield 31, 3) := by decide +kernel
theorem dX3_begin_31 : decode cX3_begin 31 = .ok (.aload_n 0, 1) := by decide +kernel
theorem dX3_begin_32 : decode cX3_begin 32 = .ok (.getfield 9, 3) := by decide +kernel
theorem dX3_begin_35 : decode cX3_begin 35 = .ok (.iconst 0, 1) := by decide +kernel
theorem dX3_begin_36 : decode cX3_begin 36 = .ok (.invokestatic 34, 3) := by decide +kernel
theorem dX3_begin_39 : decode cX3_begin 39 = .ok (.return_, 1) := by decide +kernel
theorem dX3_become_0 : decode cX3_become 0 = .ok (.aload_n 0, 1) := by decide +kernel
theorem dX3_become_1 : decode cX3_become 1 = .ok (.aload_n 1, 1) := by decide +kernel
theorem dX3_become_2 : decode cX3_become 2 = .ok (.getfield 15, 3) := by decide +kernel
theorem dX3_become_5 : decode cX3_become 5 = .ok (.putfield 15, 3) := by decide +kernel
theorem dX3_become_8 : decode cX3_become 8 = .ok (.aload_n 0, 1) := by decide +kernel
theorem dX3_become_9 : decode cX3_become 9 = .ok (.aload_n 1, 1) := by decide +kernel
theorem dX3_become_10 : decode cX3_become 10 = .ok (.getfield 19, 3) := by decide +kernel
theorem dX3_become_13 : decode cX3_become 13 = .ok (.putfield 19, 3) := by decide +kernel
theorem dX3_become_16 : decode cX3_become 16 = .ok (.aload_n 0, 1) := by decide +kernel
theorem dX3_become_17 : decode cX3_become 17 = .ok (.aload_n 1, 1) := by decide +kernel
theorem dX3_become_18 : decode cX3_become 18 = .ok (.getfield 22, 3) := by decide +kernel
theorem dX3_become_21 : decode cX3_become 21 = .ok (.putfield 22, 3) := by decide +kernel
theorem dX3_become_24 : decode cX3_become 24 = .ok (.aload_n 0, 1) := by decide +kernel
theorem dX3_become_25 : decode cX3_become 25 = .ok (.aload_n 1, 1) := by decide +kernel
theorem dX3_become_26 : decode cX3_become 26 = .ok (.getfield 25, 3) := by decide +kernel
theorem dX3_become_29 : decode cX3_become 29 = .ok (.putfield 25, 3) := by decide +kernel
theorem dX3_become_32 : decode cX3_become 32 = .ok (.aload_n 0, 1) := by decide +kernel
theorem dX3_become_33 : decode cX3_become 33 = .ok (.aload_n 1, 1) := by decide +kernel
theorem dX3_become_34 : decode cX3_become 34 = .ok (.getfield 28, 3) := by decide +kernel
theorem dX3_become_37 : decode cX3_become 37 = .ok (.putfield 28, 3) := by decide +kernel
theorem dX3_become_40 : decode cX3_become 40 = .ok (.aload_n 0, 1) := by decide +kernel
theorem dX3_become_41 : decode cX3_become 41 = .ok (.aload_n 1, 1) := by decide +kernel
theorem dX3_become_42 : decode cX3_become 42 = .ok (.getfield 31, 3) := by decide +kernel
theorem dX3_become_45 : decode cX3_become 45 = .ok (.putfield 31, 3) := by decide +kernel
theorem dX3_become_48 : decode cX3_become 48 = .ok (.aload_n 1, 1) := by decide +kernel
theorem dX3_become_49 : decode cX3_become 49 = .ok (.getfield 9, 3) := by decide +kernel
theorem dX3_become_52 : decode cX3_become 52 = .ok (.iconst 0, 1) := by decide +kernel
theorem dX3_become_53 : decode cX3_become 53 = .ok (.aload_n 0, 1) := by decide +kernel
theorem dX3_become_54 : decode cX3_become 54 = .ok (.getfield 9, 3) := by decide +kernel
theorem dX3_become_57 : decode cX3_become 57 = .ok (.iconst 0, 1) := by decide +kernel
theorem dX3_become_58 : decode cX3_become 58 = .ok (.bipush 8, 2) := by decide +kernel
theorem dX3_become_60 : decode cX3_become 60 = .ok (.invokestatic 40, 3) := by decide +kernel
theorem dX3_become_63 : decode cX3_become 63 = .ok (.return_, 1) := by decide +kernel
theorem dX3_like_0 : decode cX3_like 0 = .ok (.aload_n 0, 1) := by decide +kernel
theorem dX3_like_1 : decode cX3_like 1 = .ok (.iload_n 2, 1) := by decide +kernel
theorem dX3_like_2 : decode cX3_like 2 = .ok (.ifCond .eq 14, 3) := by decide +kernel
theorem dX3_like_5 : decode cX3_like 5 = .ok (.aload_n 0, 1) := by decide +kernel
theorem dX3_like_6 : decode cX3_like 6 = .ok (.getfield 25, 3) := by decide +kernel
theorem dX3_like_9 : decode cX3_like 9 = .ok (.iconst 1, 1) := by decide +kernel
theorem dX3_like_10 : decode cX3_like 10 = .ok (.iload_n 1, 1) := by decide +kernel
theorem dX3_like_11 : decode cX3_like 11 = .ok (.ishl, 1) := by decide +kernel
theorem dX3_like_12 : decode cX3_like 12 = .ok (.ior, 1) := by decide +kernel
theorem dX3_like_13 : decode cX3_like 13 = .ok (.goto 13, 3) := by decide +kernel
theorem dX3_like_16 : decode cX3_like 16 = .ok (.aload_n 0, 1) := by decide +kernel
theorem dX3_like_17 : decode cX3_like 17 = .ok (.getfield 25, 3) := by decide +kernel
theorem dX3_like_20 : decode cX3_like 20 = .ok (.iconst 1, 1) := by decide +kernel
theorem dX3_like_21 : decode cX3_like 21 = .ok (.iload_n 1, 1) := by decide +kernel
theorem dX3_like_22 : decode cX3_like 22 = .ok (.ishl, 1) := by decide +kernel
theorem dX3_like_23 : decode cX3_like 23 = .ok (.iconst (-1), 1) := by decide +kernel
theorem dX3_like_24 : decode cX3_like 24 = .ok (.ixor, 1) := by decide +kernel
theorem dX3_like_25 : decode cX3_like 25 = .ok (.iand, 1) := by decide +kernel
theorem dX3_like_26 : decode cX3_like 26 = .ok (.putfield 25, 3) := by decide +kernel
theorem dX3_like_29 : decode cX3_like 29 = .ok (.return_, 1) := by decide +kernel
theorem dX3_wanted_0 : decode cX3_wanted 0 = .ok (.aload_n 0, 1) := by decide +kernel
theorem dX3_wanted_1 : decode cX3_wanted 1 = .ok (.getfield 25, 3) := by decide +kernel
theorem dX3_wanted_4 : decode cX3_wanted 4 = .ok (.iconst 1, 1) := by decide +kernel
theorem dX3_wanted_5 : decode cX3_wanted 5 = .ok (.aload_n 0, 1) := by decide +kernel
theorem dX3_wanted_6 : decode cX3_wanted 6 = .ok (.getfield 19, 3) := by decide +kernel
theorem dX3_wanted_9 : decode cX3_wanted 9 = .ok (.ishl, 1) := by decide +kernel
theorem dX3_wanted_10 : decode cX3_wanted 10 = .ok (.ior, 1) := by decide +kernel
theorem dX3_wanted_11 : decode cX3_wanted 11 = .ok (.ireturn, 1) := by decide +kernel
theorem dX3_gain_0 : decode cX3_gain 0 = .ok (.iload_n 1, 1) := by decide +kernel
theorem dX3_gain_1 : decode cX3_gain 1 = .ok (.invokestatic 46, 3) := by decide +kernel
theorem dX3_gain_4 : decode cX3_gain 4 = .ok (.ifCond .eq 22, 3) := by decide +kernel
theorem dX3_gain_7 : decode cX3_gain 7 = .ok (.aload_n 0, 1) := by decide +kernel
theorem dX3_gain_8 : decode cX3_gain 8 = .ok (.getfield 9, 3) := by decide +kernel
theorem dX3_gain_11 : decode cX3_gain 11 = .ok (.iload_n 1, 1) := by decide +kernel
theorem dX3_gain_12 : decode cX3_gain 12 = .ok (.bipush 99, 2) := by decide +kernel
theorem dX3_gain_14 : decode cX3_gain 14 = .ok (.aload_n 0, 1) := by decide +kernel
theorem dX3_gain_15 : decode cX3_gain 15 = .ok (.getfield 9, 3) := by decide +kernel
theorem dX3_gain_18 : decode cX3_gain 18 = .ok (.iload_n 1, 1) := by decide +kernel
theorem dX3_gain_19 : decode cX3_gain 19 = .ok (.iaload, 1) := by decide +kernel
theorem dX3_gain_20 : decode cX3_gain 20 = .ok (.iconst 1, 1) := by decide +kernel
theorem dX3_gain_21 : decode cX3_gain 21 = .ok (.iadd, 1) := by decide +kernel
theorem dX3_gain_22 : decode cX3_gain 22 = .ok (.invokestatic 50, 3) := by decide +kernel
theorem dX3_gain_25 : decode cX3_gain 25 = .ok (.iastore, 1) := by decide +kernel
theorem dX3_gain_26 : decode cX3_gain 26 = .ok (.return_, 1) := by decide +kernel
theorem dX3_lose_0 : decode cX3_lose 0 = .ok (.iload_n 1, 1) := by decide +kernel
theorem dX3_lose_1 : decode cX3_lose 1 = .ok (.invokestatic 46, 3) := by decide +kernel
theorem dX3_lose_4 : decode cX3_lose 4 = .ok (.ifCond .eq 21, 3) := by decide +kernel
theorem dX3_lose_7 : decode cX3_lose 7 = .ok (.aload_n 0, 1) := by decide +kernel
theorem dX3_lose_8 : decode cX3_lose 8 = .ok (.getfield 9, 3) := by decide +kernel
theorem dX3_lose_11 : decode cX3_lose 11 = .ok (.iload_n 1, 1) := by decide +kernel
theorem dX3_lose_12 : decode cX3_lose 12 = .ok (.iconst 0, 1) := by decide +kernel
theorem dX3_lose_13 : decode cX3_lose 13 = .ok (.aload_n 0, 1) := by decide +kernel
theorem dX3_lose_14 : decode cX3_lose 14 = .ok (.getfield 9, 3) := by decide +kernel
theorem dX3_lose_17 : decode cX3_lose 17 = .ok (.iload_n 1, 1) := by decide +kernel
theorem dX3_lose_18 : decode cX3_lose 18 = .ok (.iaload, 1) := by decide +kernel
theorem dX3_lose_19 : decode cX3_lose 19 = .ok (.iconst 1, 1) := by decide +kernel
theorem dX3_lose_20 : decode cX3_lose 20 = .ok (.isub, 1) := by decide +kernel
theorem dX3_lose_21 : decode cX3_lose 21 = .ok (.invokestatic 56, 3) := by decide +kernel
theorem dX3_lose_24 : decode cX3_lose 24 = .ok (.iastore, 1) := by decide +kernel
theorem dX3_lose_25 : decode cX3_lose 25 = .ok (.return_, 1) := by decide +kernel
theorem dX3_countHad_0 : decode cX3_countHad 0 = .ok (.iconst 0, 1) := by decide +kernel
theorem dX3_countHad_1 : decode cX3_countHad 1 = .ok (.istore_n 1, 1) := by decide +kernel
theorem dX3_countHad_2 : decode cX3_countHad 2 = .ok (.iconst 0, 1) := by decide +kernel
theorem dX3_countHad_3 : decode cX3_countHad 3 = .ok (.istore_n 2, 1) := by decide +kernel
theorem dX3_countHad_4 : decode cX3_countHad 4 = .ok (.iload_n 2, 1) := by decide +kernel
theorem dX3_countHad_5 : decode cX3_countHad 5 = .ok (.bipush 8, 2) := by decide +kernel
theorem dX3_countHad_7 : decode cX3_countHad 7 = .ok (.if_icmp .ge 18, 3) := by decide +kernel
theorem dX3_countHad_10 : decode cX3_countHad 10 = .ok (.iload_n 1, 1) := by decide +kernel
theorem dX3_countHad_11 : decode cX3_countHad 11 = .ok (.aload_n 0, 1) := by decide +kernel
theorem dX3_countHad_12 : decode cX3_countHad 12 = .ok (.getfield 9, 3) := by decide +kernel
theorem dX3_countHad_15 : decode cX3_countHad 15 = .ok (.iload_n 2, 1) := by decide +kernel
theorem dX3_countHad_16 : decode cX3_countHad 16 = .ok (.iaload, 1) := by decide +kernel
theorem dX3_countHad_17 : decode cX3_countHad 17 = .ok (.iadd, 1) := by decide +kernel
theorem dX3_countHad_18 : decode cX3_countHad 18 = .ok (.istore_n 1, 1) := by decide +kernel
theorem dX3_countHad_19 : decode cX3_countHad 19 = .ok (.iinc 2 1, 3) := by decide +kernel
theorem dX3_countHad_22 : decode cX3_countHad 22 = .ok (.goto (-18), 3) := by decide +kernel
theorem dX3_countHad_25 : decode cX3_countHad 25 = .ok (.iload_n 1, 1) := by decide +kernel
theorem dX3_countHad_26 : decode cX3_countHad 26 = .ok (.ireturn, 1) := by decide +kernel
theorem dX4_init_0 : decode cX4_init 0 = .ok (.aload_n 0, 1) := by decide +kernel
theorem dX4_init_1 : decode cX4_init 1 = .ok (.invokespecial 3, 3) := by decide +kernel
theorem dX4_init_4 : decode cX4_init 4 = .ok (.aload_n 0, 1) := by decide +kernel
theorem dX4_init_5 : decode cX4_init 5 = .ok (.bipush 12, 2) := by decide +kernel
theorem dX4_init_7 : decode cX4_init 7 = .ok (.newarray .int, 2) := by decide +kernel
theorem dX4_init_9 : decode cX4_init 9 = .ok (.putfield 9, 3) := by decide +kernel
theorem dX4_init_12 : decode cX4_init 12 = .ok (.aload_n 0, 1) := by decide +kernel
theorem dX4_init_13 : decode cX4_init 13 = .ok (.bipush 8, 2) := by decide +kernel
theorem dX4_init_15 : decode cX4_init 15 = .ok (.newarray .int, 2) := by decide +kernel
theorem dX4_init_17 : decode cX4_init 17 = .ok (.putfield 15, 3) := by decide +kernel
theorem dX4_init_20 : decode cX4_init 20 = .ok (.aload_n 0, 1) := by decide +kernel
theorem dX4_init_21 : decode cX4_init 21 = .ok (.bipush 8, 2) := by decide +kernel
theorem dX4_init_23 : decode cX4_init 23 = .ok (.anewarray 18, 3) := by decide +kernel
theorem dX4_init_26 : decode cX4_init 26 = .ok (.putfield 20, 3) := by decide +kernel
theorem dX4_init_29 : decode cX4_init 29 = .ok (.aload_n 0, 1) := by decide +kernel
theorem dX4_init_30 : decode cX4_init 30 = .ok (.bipush 8, 2) := by decide +kernel
theorem dX4_init_32 : decode cX4_init 32 = .ok (.newarray .int, 2) := by decide +kernel
theorem dX4_init_34 : decode cX4_init 34 = .ok (.putfield 24, 3) := by decide +kernel
theorem dX4_init_37 : decode cX4_init 37 = .ok (.aload_n 0, 1) := by decide +kernel
theorem dX4_init_38 : decode cX4_init 38 = .ok (.iconst 1, 1) := by decide +kernel
theorem dX4_init_39 : decode cX4_init 39 = .ok (.putfield 27, 3) := by decide +kernel
theorem dX4_init_42 : decode cX4_init 42 = .ok (.aload_n 0, 1) := by decide +kernel
theorem dX4_init_43 : decode cX4_init 43 = .ok (.getfield 9, 3) := by decide +kernel
theorem dX4_init_46 : decode cX4_init 46 = .ok (.iconst (-1), 1) := by decide +kernel
theorem dX4_init_47 : decode cX4_init 47 = .ok (.invokestatic 31, 3) := by decide +kernel
theorem dX4_init_50 : decode cX4_init 50 = .ok (.iconst 0, 1) := by decide +kernel
theorem dX4_init_51 : decode cX4_init 51 = .ok (.istore_n 1, 1) := by decide +kernel
theorem dX4_init_52 : decode cX4_init 52 = .ok (.iload_n 1, 1) := by decide +kernel
theorem dX4_init_53 : decode cX4_init 53 = .ok (.bipush 8, 2) := by decide +kernel
theorem dX4_init_55 : decode cX4_init 55 = .ok (.if_icmp .ge 22, 3) := by decide +kernel
theorem dX4_init_58 : decode cX4_init 58 = .ok (.aload_n 0, 1) := by decide +kernel
theorem dX4_init_59 : decode cX4_init 59 = .ok (.getfield 20, 3) := by decide +kernel
theorem dX4_init_62 : decode cX4_init 62 = .ok (.iload_n 1, 1) := by decide +kernel
theorem dX4_init_63 : decode cX4_init 63 = .ok (.new 18, 3) := by decide +kernel
theorem dX4_init_66 : decode cX4_init 66 = .ok (.dup, 1) := by decide +kernel
theorem dX4_init_67 : decode cX4_init 67 = .ok (.invokespecial 37, 3) := by decide +kernel
theorem dX4_init_70 : decode cX4_init 70 = .ok (.aastore, 1) := by decide +kernel
theorem dX4_init_71 : decode cX4_init 71 = .ok (.iinc 1 1, 3) := by decide +kernel
theorem dX4_init_74 : decode cX4_init 74 = .ok (.goto (-22), 3) := by decide +kernel
theorem dX4_init_77 : decode cX4_init 77 = .ok (.return_, 1) := by decide +kernel
theorem dX4_become_0 : decode cX4_become 0 = .ok (.aload_n 1, 1) := by decide +kernel
theorem dX4_become_1 : decode cX4_become 1 = .ok (.getfield 9, 3) := by decide +kernel
theorem dX4_become_4 : decode cX4_become 4 = .ok (.iconst 0, 1) := by decide +kernel
theorem dX4_become_5 : decode cX4_become 5 = .ok (.aload_n 0, 1) := by decide +kernel
theorem dX4_become_6 : decode cX4_become 6 = .ok (.getfield 9, 3) := by decide +kernel
theorem dX4_become_9 : decode cX4_become 9 = .ok (.iconst 0, 1) := by decide +kernel
theorem dX4_become_10 : decode cX4_become 10 = .ok (.bipush 12, 2) := by decide +kernel
theorem dX4_become_12 : decode cX4_become 12 = .ok (.invokestatic 38, 3) := by decide +kernel
theorem dX4_become_15 : decode cX4_become 15 = .ok (.aload_n 1, 1) := by decide +kernel
theorem dX4_become_16 : decode cX4_become 16 = .ok (.getfield 15, 3) := by decide +kernel
theorem dX4_become_19 : decode cX4_become 19 = .ok (.iconst 0, 1) := by decide +kernel
theorem dX4_become_20 : decode cX4_become 20 = .ok (.aload_n 0, 1) := by decide +kernel
theorem dX4_become_21 : decode cX4_become 21 = .ok (.getfield 15, 3) := by decide +kernel
theorem dX4_become_24 : decode cX4_become 24 = .ok (.iconst 0, 1) := by decide +kernel
theorem dX4_become_25 : decode cX4_become 25 = .ok (.bipush 8, 2) := by decide +kernel
theorem dX4_become_27 : decode cX4_become 27 = .ok (.invokestatic 38, 3) := by decide +kernel
theorem dX4_become_30 : decode cX4_become 30 = .ok (.aload_n 1, 1) := by decide +kernel
theorem dX4_become_31 : decode cX4_become 31 = .ok (.getfield 24, 3) := by decide +kernel
theorem dX4_become_34 : decode cX4_become 34 = .ok (.iconst 0, 1) := by decide +kernel
theorem dX4_become_35 : decode cX4_become 35 = .ok (.aload_n 0, 1) := by decide +kernel
theorem dX4_become_36 : decode cX4_become 36 = .ok (.getfield 24, 3) := by decide +kernel
theorem dX4_become_39 : decode cX4_become 39 = .ok (.iconst 0, 1) := by decide +kernel
theorem dX4_become_40 : decode cX4_become 40 = .ok (.bipush 8, 2) := by decide +kernel
theorem dX4_become_42 : decode cX4_become 42 = .ok (.invokestatic 38, 3) := by decide +kernel
theorem dX4_become_45 : decode cX4_become 45 = .ok (.iconst 0, 1) := by decide +kernel
theorem dX4_become_46 : decode cX4_become 46 = .ok (.istore_n 2, 1) := by decide +kernel
theorem dX4_become_47 : decode cX4_become 47 = .ok (.iload_n 2, 1) := by decide +kernel
theorem dX4_become_48 : decode cX4_become 48 = .ok (.aload_n 1, 1) := by decide +kernel
theorem dX4_become_49 : decode cX4_become 49 = .ok (.getfield 44, 3) := by decide +kernel
theorem dX4_become_52 : decode cX4_become 52 = .ok (.if_icmp .ge 24, 3) := by decide +kernel
theorem dX4_become_55 : decode cX4_become 55 = .ok (.aload_n 0, 1) := by decide +kernel
theorem dX4_become_56 : decode cX4_become 56 = .ok (.getfield 20, 3) := by decide +kernel
theorem dX4_become_59 : decode cX4_become 59 = .ok (.iload_n 2, 1) := by decide +kernel
theorem dX4_become_60 : decode cX4_become 60 = .ok (.aaload, 1) := by decide +kernel
theorem dX4_become_61 : decode cX4_become 61 = .ok (.aload_n 1, 1) := by decide +kernel
theorem dX4_become_62 : decode cX4_become 62 = .ok (.getfield 20, 3) := by decide +kernel
theorem dX4_become_65 : decode cX4_become 65 = .ok (.iload_n 2, 1) := by decide +kernel
theorem dX4_become_66 : decode cX4_become 66 = .ok (.aaload, 1) := by decide +kernel
theorem dX4_become_67 : decode cX4_become 67 = .ok (.invokevirtual 47, 3) := by decide +kernel
theorem dX4_become_70 : decode cX4_become 70 = .ok (.iinc 2 1, 3) := by decide +kernel
theorem dX4_become_73 : decode cX4_become 73 = .ok (.goto (-26), 3) := by decide +kernel
theorem dX4_become_76 : decode cX4_become 76 = .ok (.aload_n 0, 1) := by decide +kernel
theorem dX4_become_77 : decode cX4_become 77 = .ok (.aload_n 1, 1) := by decide +kernel
theorem dX4_become_78 : decode cX4_become 78 = .ok (.getfield 51, 3) := by decide +kernel
theorem dX4_become_81 : decode cX4_become 81 = .ok (.putfield 51, 3) := by decide +kernel
theorem dX4_become_84 : decode cX4_become 84 = .ok (.aload_n 0, 1) := by decide +kernel
theorem dX4_become_85 : decode cX4_become 85 = .ok (.aload_n 1, 1) := by decide +kernel
theorem dX4_become_86 : decode cX4_become 86 = .ok (.getfield 44, 3) := by decide +kernel
theorem dX4_become_89 : decode cX4_become 89 = .ok (.putfield 44, 3) := by decide +kernel
theorem dX4_become_92 : decode cX4_become 92 = .ok (.aload_n 0, 1) := by decide +kernel
theorem dX4_become_93 : decode cX4_become 93 = .ok (.aload_n 1, 1) := by decide +kernel
theorem dX4_become_94 : decode cX4_become 94 = .ok (.getfield 54, 3) := by decide +kernel
theorem dX4_become_97 : decode cX4_become 97 = .ok (.putfield 54, 3) := by decide +kernel
theorem dX4_become_100 : decode cX4_become 100 = .ok (.aload_n 0, 1) := by decide +kernel
theorem dX4_become_101 : decode cX4_become 101 = .ok (.aload_n 1, 1) := by decide +kernel
theorem dX4_become_102 : decode cX4_become 102 = .ok (.getfield 27, 3) := by decide +kernel
theorem dX4_become_105 : decode cX4_become 105 = .ok (.putfield 27, 3) := by decide +kernel
theorem dX4_become_108 : decode cX4_become 108 = .ok (.return_, 1) := by decide +kernel
theorem dX4_put_0 : decode cX4_put 0 = .ok (.aload_n 0, 1) := by decide +kernel
theorem dX4_put_1 : decode cX4_put 1 = .ok (.getfield 9, 3) := by decide +kernel
theorem dX4_put_4 : decode cX4_put 4 = .ok (.iload_n 1, 1) := by decide +kernel
theorem dX4_put_5 : decode cX4_put 5 = .ok (.iaload, 1) := by decide +kernel
theorem dX4_put_6 : decode cX4_put 6 = .ok (.istore_n 3, 1) := by decide +kernel
theorem dX4_put_7 : decode cX4_put 7 = .ok (.iload_n 3, 1) := by decide +kernel
theorem dX4_put_8 : decode cX4_put 8 = .ok (.invokestatic 57, 3) := by decide +kernel
theorem dX4_put_11 : decode cX4_put 11 = .ok (.ifCond .eq 17, 3) := by decide +kernel
theorem dX4_put_14 : decode cX4_put 14 = .ok (.aload_n 0, 1) := by decide +kernel
theorem dX4_put_15 : decode cX4_put 15 = .ok (.getfield 15, 3) := by decide +kernel
theorem dX4_put_18 : decode cX4_put 18 = .ok (.iload_n 3, 1) := by decide +kernel
theorem dX4_put_19 : decode cX4_put 19 = .ok (.dup2, 1) := by decide +kernel
theorem dX4_put_20 : decode cX4_put 20 = .ok (.iaload, 1) := by decide +kernel
theorem dX4_put_21 : decode cX4_put 21 = .ok (.iconst 1, 1) := by decide +kernel
theorem dX4_put_22 : decode cX4_put 22 = .ok (.iload_n 1, 1) := by decide +kernel
theorem dX4_put_23 : decode cX4_put 23 = .ok (.ishl, 1) := by decide +kernel
theorem dX4_put_24 : decode cX4_put 24 = .ok (.iconst (-1), 1) := by decide +kernel
theorem dX4_put_25 : decode cX4_put 25 = .ok (.ixor, 1) := by decide +kernel
theorem dX4_put_26 : decode cX4_put 26 = .ok (.iand, 1) := by decide +kernel
theorem dX4_put_27 : decode cX4_put 27 = .ok (.iastore, 1) := by decide +kernel
theorem dX4_put_28 : decode cX4_put 28 = .ok (.aload_n 0, 1) := by decide +kernel
theorem dX4_put_29 : decode cX4_put 29 = .ok (.dup, 1) := by decide +kernel
theorem dX4_put_30 : decode cX4_put 30 = .ok (.getfield 51, 3) := by decide +kernel
theorem dX4_put_33 : decode cX4_put 33 = .ok (.iconst 1, 1) := by decide +kernel
theorem dX4_put_34 : decode cX4_put 34 = .ok (.iload_n 1, 1) := by decide +kernel
theorem dX4_put_35 : decode cX4_put 35 = .ok (.ishl, 1) := by decide +kernel
theorem dX4_put_36 : decode cX4_put 36 = .ok (.iconst (-1), 1) := by decide +kernel
theorem dX4_put_37 : decode cX4_put 37 = .ok (.ixor, 1) := by decide +kernel
theorem dX4_put_38 : decode cX4_put 38 = .ok (.iand, 1) := by decide +kernel
theorem dX4_put_39 : decode cX4_put 39 = .ok (.putfield 51, 3) := by decide +kernel
theorem dX4_put_42 : decode cX4_put 42 = .ok (.iload_n 2, 1) := by decide +kernel
theorem dX4_put_43 : decode cX4_put 43 = .ok (.invokestatic 57, 3) := by decide +kernel
theorem dX4_put_46 : decode cX4_put 46 = .ok (.ifCond .eq 27, 3) := by decide +kernel
theorem dX4_put_49 : decode cX4_put 49 = .ok (.aload_n 0, 1) := by decide +kernel
theorem dX4_put_50 : decode cX4_put 50 = .ok (.getfield 15, 3) := by decide +kernel
theorem dX4_put_53 : decode cX4_put 53 = .ok (.iload_n 2, 1) := by decide +kernel
theorem dX4_put_54 : decode cX4_put 54 = .ok (.dup2, 1) := by decide +kernel
theorem dX4_put_55 : decode cX4_put 55 = .ok (.iaload, 1) := by decide +kernel
theorem dX4_put_56 : decode cX4_put 56 = .ok (.iconst 1, 1) := by decide +kernel
theorem dX4_put_57 : decode cX4_put 57 = .ok (.iload_n 1, 1) := by decide +kernel
theorem dX4_put_58 : decode cX4_put 58 = .ok (.ishl, 1) := by decide +kernel
theorem dX4_put_59 : decode cX4_put 59 = .ok (.ior, 1) := by decide +kernel
theorem dX4_put_60 : decode cX4_put 60 = .ok (.iastore, 1) := by decide +kernel
theorem dX4_put_61 : decode cX4_put 61 = .ok (.aload_n 0, 1) := by decide +kernel
theorem dX4_put_62 : decode cX4_put 62 = .ok (.dup, 1) := by decide +kernel
theorem dX4_put_63 : decode cX4_put 63 = .ok (.getfield 51, 3) := by decide +kernel
theorem dX4_put_66 : decode cX4_put 66 = .ok (.iconst 1, 1) := by decide +kernel
theorem dX4_put_67 : decode cX4_put 67 = .ok (.iload_n 1, 1) := by decide +kernel
theorem dX4_put_68 : decode cX4_put 68 = .ok (.ishl, 1) := by decide +kernel
theorem dX4_put_69 : decode cX4_put 69 = .ok (.ior, 1) := by decide +kernel
theorem dX4_put_70 : decode cX4_put 70 = .ok (.putfield 51, 3) := by decide +kernel
theorem dX4_put_73 : decode cX4_put 73 = .ok (.aload_n 0, 1) := by decide +kernel
theorem dX4_put_74 : decode cX4_put 74 = .ok (.getfield 9, 3) := by decide +kernel
theorem dX4_put_77 : decode cX4_put 77 = .ok (.iload_n 1, 1) := by decide +kernel
theorem dX4_put_78 : decode cX4_put 78 = .ok (.iload_n 2, 1) := by decide +kernel
theorem dX4_put_79 : decode cX4_put 79 = .ok (.iastore, 1) := by decide +kernel
theorem dX4_put_80 : decode cX4_put 80 = .ok (.return_, 1) := by decide +kernel
theorem dX4_placesWithAny_0 : decode cX4_placesWithAny 0 = .ok (.iconst 0, 1) := by decide +kernel
theorem dX4_placesWithAny_1 : decode cX4_placesWithAny 1 = .ok (.istore_n 2, 1) := by decide +kernel
theorem dX4_placesWithAny_2 : decode cX4_placesWithAny 2 = .ok (.iconst 0, 1) := by decide +kernel
theorem dX4_placesWithAny_3 : decode cX4_placesWithAny 3 = .ok (.istore_n 3, 1) := by decide +kernel
theorem dX4_placesWithAny_4 : decode cX4_placesWithAny 4 = .ok (.iload_n 3, 1) := by decide +kernel
theorem dX4_placesWithAny_5 : decode cX4_placesWithAny 5 = .ok (.bipush 8, 2) := by decide +kernel
theorem dX4_placesWithAny_7 : decode cX4_placesWithAny 7 = .ok (.if_icmp .ge 26, 3) := by decide +kernel
theorem dX4_placesWithAny_10 : decode cX4_placesWithAny 10 = .ok (.iload_n 1, 1) := by decide +kernel
theorem dX4_placesWithAny_11 : decode cX4_placesWithAny 11 = .ok (.iload_n 3, 1) := by decide +kernel
theorem dX4_placesWithAny_12 : decode cX4_placesWithAny 12 = .ok (.ishr, 1) := by decide +kernel
theorem dX4_placesWithAny_13 : decode cX4_placesWithAny 13 = .ok (.iconst 1, 1) := by decide +kernel
theorem dX4_placesWithAny_14 : decode cX4_placesWithAny 14 = .ok (.iand, 1) := by decide +kernel
theorem dX4_placesWithAny_15 : decode cX4_placesWithAny 15 = .ok (.ifCond .eq 12, 3) := by decide +kernel
theorem dX4_placesWithAny_18 : decode cX4_placesWithAny 18 = .ok (.iload_n 2, 1) := by decide +kernel
theorem dX4_placesWithAny_19 : decode cX4_placesWithAny 19 = .ok (.aload_n 0, 1) := by decide +kernel
theorem dX4_placesWithAny_20 : decode cX4_placesWithAny 20 = .ok (.getfield 15, 3) := by decide +kernel
theorem dX4_placesWithAny_23 : decode cX4_placesWithAny 23 = .ok (.iload_n 3, 1) := by decide +kernel
theorem dX4_placesWithAny_24 : decode cX4_placesWithAny 24 = .ok (.iaload, 1) := by decide +kernel
theorem dX4_placesWithAny_25 : decode cX4_placesWithAny 25 = .ok (.ior, 1) := by decide +kernel
theorem dX4_placesWithAny_26 : decode cX4_placesWithAny 26 = .ok (.istore_n 2, 1) := by decide +kernel
theorem dX4_placesWithAny_27 : decode cX4_placesWithAny 27 = .ok (.iinc 3 1, 3) := by decide +kernel
theorem dX4_placesWithAny_30 : decode cX4_placesWithAny 30 = .ok (.goto (-26), 3) := by decide +kernel
theorem dX4_placesWithAny_33 : decode cX4_placesWithAny 33 = .ok (.iload_n 2, 1) := by decide +kernel
theorem dX4_placesWithAny_34 : decode cX4_placesWithAny 34 = .ok (.ireturn, 1) := by decide +kernel
theorem dX4_isFull_0 : decode cX4_isFull 0 = .ok (.aload_n 0, 1) := by decide +kernel
theorem dX4_isFull_1 : decode cX4_isFull 1 = .ok (.getfield 44, 3) := by decide +kernel
theorem dX4_isFull_4 : decode cX4_isFull 4 = .ok (.bipush 8, 2) := by decide +kernel
theorem dX4_isFull_6 : decode cX4_isFull 6 = .ok (.if_icmp .lt 7, 3) := by decide +kernel
theorem dX4_isFull_9 : decode cX4_isFull 9 = .ok (.iconst 1, 1) := by decide +kernel
theorem dX4_isFull_10 : decode cX4_isFull 10 = .ok (.goto 4, 3) := by decide +kernel
theorem dX4_isFull_13 : decode cX4_isFull 13 = .ok (.iconst 0, 1) := by decide +kernel
theorem dX4_isFull_14 : decode cX4_isFull 14 = .ok (.ireturn, 1) := by decide +kernel
theorem dX4_everybody_0 : decode cX4_everybody 0 = .ok (.iconst 1, 1) := by decide +kernel
theorem dX4_everybody_1 : decode cX4_everybody 1 = .ok (.aload_n 0, 1) := by decide +kernel
theorem dX4_everybody_2 : decode cX4_everybody 2 = .ok (.getfield 44, 3) := by decide +kernel
theorem dX4_everybody_5 : decode cX4_everybody 5 = .ok (.ishl, 1) := by decide +kernel
theorem dX4_everybody_6 : decode cX4_everybody 6 = .ok (.iconst 1, 1) := by decide +kernel
theorem dX4_everybody_7 : decode cX4_everybody 7 = .ok (.isub, 1) := by decide +kernel
theorem dX4_everybody_8 : decode cX4_everybody 8 = .ok (.ireturn, 1) := by decide +kernel
theorem dX4_add_0 : decode cX4_add 0 = .ok (.aload_n 0, 1) := by decide +kernel
theorem dX4_add_1 : decode cX4_add 1 = .ok (.getfield 44, 3) := by decide +kernel
theorem dX4_add_4 : decode cX4_add 4 = .ok (.istore 4, 2) := by decide +kernel
theorem dX4_add_6 : decode cX4_add 6 = .ok (.aload_n 0, 1) := by decide +kernel
theorem dX4_add_7 : decode cX4_add 7 = .ok (.getfield 20, 3) := by decide +kernel
theorem dX4_add_10 : decode cX4_add 10 = .ok (.iload 4, 2) := by decide +kernel
theorem dX4_add_12 : decode cX4_add 12 = .ok (.aaload, 1) := by decide +kernel
theorem dX4_add_13 : decode cX4_add 13 = .ok (.iload_n 1, 1) := by decide +kernel
theorem dX4_add_14 : decode cX4_add 14 = .ok (.iload_n 2, 1) := by decide +kernel
theorem dX4_add_15 : decode cX4_add 15 = .ok (.iload_n 3, 1) := by decide +kernel
theorem dX4_add_16 : decode cX4_add 16 = .ok (.invokevirtual 61, 3) := by decide +kernel
theorem dX4_add_19 : decode cX4_add 19 = .ok (.aload_n 0, 1) := by decide +kernel
theorem dX4_add_20 : decode cX4_add 20 = .ok (.dup, 1) := by decide +kernel
theorem dX4_add_21 : decode cX4_add 21 = .ok (.getfield 44, 3) := by decide +kernel
theorem dX4_add_24 : decode cX4_add 24 = .ok (.iconst 1, 1) := by decide +kernel
theorem dX4_add_25 : decode cX4_add 25 = .ok (.iadd, 1) := by decide +kernel
theorem dX4_add_26 : decode cX4_add 26 = .ok (.putfield 44, 3) := by decide +kernel
theorem dX4_add_29 : decode cX4_add 29 = .ok (.aload_n 0, 1) := by decide +kernel
theorem dX4_add_30 : decode cX4_add 30 = .ok (.invokevirtual 65, 3) := by decide +kernel
theorem dX4_add_33 : decode cX4_add 33 = .ok (.iload 4, 2) := by decide +kernel
theorem dX4_add_35 : decode cX4_add 35 = .ok (.ireturn, 1) := by decide +kernel
theorem dX4_putAge_0 : decode cX4_putAge 0 = .ok (.aload_n 0, 1) := by decide +kernel
theorem dX4_putAge_1 : decode cX4_putAge 1 = .ok (.getfield 20, 3) := by decide +kernel
theorem dX4_putAge_4 : decode cX4_putAge 4 = .ok (.iload_n 1, 1) := by decide +kernel
theorem dX4_putAge_5 : decode cX4_putAge 5 = .ok (.aaload, 1) := by decide +kernel
theorem dX4_putAge_6 : decode cX4_putAge 6 = .ok (.iload_n 2, 1) := by decide +kernel
theorem dX4_putAge_7 : decode cX4_putAge 7 = .ok (.putfield 68, 3) := by decide +kernel
theorem dX4_putAge_10 : decode cX4_putAge 10 = .ok (.aload_n 0, 1) := by decide +kernel
theorem dX4_putAge_11 : decode cX4_putAge 11 = .ok (.invokevirtual 65, 3) := by decide +kernel
theorem dX4_putAge_14 : decode cX4_putAge 14 = .ok (.return_, 1) := by decide +kernel
theorem dX4_orderByAge_0 : decode cX4_orderByAge 0 = .ok (.iconst 0, 1) := by decide +kernel
theorem dX4_orderByAge_1 : decode cX4_orderByAge 1 = .ok (.istore_n 1, 1) := by decide +kernel
theorem dX4_orderByAge_2 : decode cX4_orderByAge 2 = .ok (.iload_n 1, 1) := by decide +kernel
theorem dX4_orderByAge_3 : decode cX4_orderByAge 3 = .ok (.aload_n 0, 1) := by decide +kernel
theorem dX4_orderByAge_4 : decode cX4_orderByAge 4 = .ok (.getfield 44, 3) := by decide +kernel
theorem dX4_orderByAge_7 : decode cX4_orderByAge 7 = .ok (.if_icmp .ge 70, 3) := by decide +kernel
theorem dX4_orderByAge_10 : decode cX4_orderByAge 10 = .ok (.iload_n 1, 1) := by decide +kernel
theorem dX4_orderByAge_11 : decode cX4_orderByAge 11 = .ok (.istore_n 2, 1) := by decide +kernel
theorem dX4_orderByAge_12 : decode cX4_orderByAge 12 = .ok (.iload_n 2, 1) := by decide +kernel
theorem dX4_orderByAge_13 : decode cX4_orderByAge 13 = .ok (.ifCond .le 51, 3) := by decide +kernel
theorem dX4_orderByAge_16 : decode cX4_orderByAge 16 = .ok (.aload_n 0, 1) := by decide +kernel
theorem dX4_orderByAge_17 : decode cX4_orderByAge 17 = .ok (.getfield 20, 3) := by decide +kernel
theorem dX4_orderByAge_20 : decode cX4_orderByAge 20 = .ok (.aload_n 0, 1) := by decide +kernel
theorem dX4_orderByAge_21 : decode cX4_orderByAge 21 = .ok (.getfield 24, 3) := by decide +kernel
theorem dX4_orderByAge_24 : decode cX4_orderByAge 24 = .ok (.iload_n 2, 1) := by decide +kernel
theorem dX4_orderByAge_25 : decode cX4_orderByAge 25 = .ok (.iconst 1, 1) := by decide +kernel
theorem dX4_orderByAge_26 : decode cX4_orderByAge 26 = .ok (.isub, 1) := by decide +kernel
theorem dX4_orderByAge_27 : decode cX4_orderByAge 27 = .ok (.iaload, 1) := by decide +kernel
theorem dX4_orderByAge_28 : decode cX4_orderByAge 28 = .ok (.aaload, 1) := by decide +kernel
theorem dX4_orderByAge_29 : decode cX4_orderByAge 29 = .ok (.getfield 68, 3) := by decide +kernel
theorem dX4_orderByAge_32 : decode cX4_orderByAge 32 = .ok (.aload_n 0, 1) := by decide +kernel
theorem dX4_orderByAge_33 : decode cX4_orderByAge 33 = .ok (.getfield 20, 3) := by decide +kernel
theorem dX4_orderByAge_36 : decode cX4_orderByAge 36 = .ok (.iload_n 1, 1) := by decide +kernel
theorem dX4_orderByAge_37 : decode cX4_orderByAge 37 = .ok (.aaload, 1) := by decide +kernel
theorem dX4_orderByAge_38 : decode cX4_orderByAge 38 = .ok (.getfield 68, 3) := by decide +kernel
theorem dX4_orderByAge_41 : decode cX4_orderByAge 41 = .ok (.if_icmp .le 23, 3) := by decide +kernel
theorem dX4_orderByAge_44 : decode cX4_orderByAge 44 = .ok (.aload_n 0, 1) := by decide +kernel
theorem dX4_orderByAge_45 : decode cX4_orderByAge 45 = .ok (.getfield 24, 3) := by decide +kernel
theorem dX4_orderByAge_48 : decode cX4_orderByAge 48 = .ok (.iload_n 2, 1) := by decide +kernel
theorem dX4_orderByAge_49 : decode cX4_orderByAge 49 = .ok (.aload_n 0, 1) := by decide +kernel
theorem dX4_orderByAge_50 : decode cX4_orderByAge 50 = .ok (.getfield 24, 3) := by decide +kernel
theorem dX4_orderByAge_53 : decode cX4_orderByAge 53 = .ok (.iload_n 2, 1) := by decide +kernel
theorem dX4_orderByAge_54 : decode cX4_orderByAge 54 = .ok (.iconst 1, 1) := by decide +kernel
theorem dX4_orderByAge_55 : decode cX4_orderByAge 55 = .ok (.isub, 1) := by decide +kernel
theorem dX4_orderByAge_56 : decode cX4_orderByAge 56 = .ok (.iaload, 1) := by decide +kernel
theorem dX4_orderByAge_57 : decode cX4_orderByAge 57 = .ok (.iastore, 1) := by decide +kernel
theorem dX4_orderByAge_58 : decode cX4_orderByAge 58 = .ok (.iinc 2 (-1), 3) := by decide +kernel
theorem dX4_orderByAge_61 : decode cX4_orderByAge 61 = .ok (.goto (-49), 3) := by decide +kernel
theorem dX4_orderByAge_64 : decode cX4_orderByAge 64 = .ok (.aload_n 0, 1) := by decide +kernel
theorem dX4_orderByAge_65 : decode cX4_orderByAge 65 = .ok (.getfield 24, 3) := by decide +kernel
theorem dX4_orderByAge_68 : decode cX4_orderByAge 68 = .ok (.iload_n 2, 1) := by decide +kernel
theorem dX4_orderByAge_69 : decode cX4_orderByAge 69 = .ok (.iload_n 1, 1) := by decide +kernel
theorem dX4_orderByAge_70 : decode cX4_orderByAge 70 = .ok (.iastore, 1) := by decide +kernel
theorem dX4_orderByAge_71 : decode cX4_orderByAge 71 = .ok (.iinc 1 1, 3) := by decide +kernel
theorem dX4_orderByAge_74 : decode cX4_orderByAge 74 = .ok (.goto (-72), 3) := by decide +kernel
theorem dX4_orderByAge_77 : decode cX4_orderByAge 77 = .ok (.return_, 1) := by decide +kernel
theorem dX4_inOrder_0 : decode cX4_inOrder 0 = .ok (.iconst 0, 1) := by decide +kernel
theorem dX4_inOrder_1 : decode cX4_inOrder 1 = .ok (.istore_n 3, 1) := by decide +kernel
theorem dX4_inOrder_2 : decode cX4_inOrder 2 = .ok (.iconst 0, 1) := by decide +kernel
theorem dX4_inOrder_3 : decode cX4_inOrder 3 = .ok (.istore 4, 2) := by decide +kernel
theorem dX4_inOrder_5 : decode cX4_inOrder 5 = .ok (.iload 4, 2) := by decide +kernel
theorem dX4_inOrder_7 : decode cX4_inOrder 7 = .ok (.aload_n 0, 1) := by decide +kernel
theorem dX4_inOrder_8 : decode cX4_inOrder 8 = .ok (.getfield 44, 3) := by decide +kernel
theorem dX4_inOrder_11 : decode cX4_inOrder 11 = .ok (.if_icmp .ge 38, 3) := by decide +kernel
theorem dX4_inOrder_14 : decode cX4_inOrder 14 = .ok (.aload_n 0, 1) := by decide +kernel
theorem dX4_inOrder_15 : decode cX4_inOrder 15 = .ok (.getfield 24, 3) := by decide +kernel
theorem dX4_inOrder_18 : decode cX4_inOrder 18 = .ok (.iload 4, 2) := by decide +kernel
theorem dX4_inOrder_20 : decode cX4_inOrder 20 = .ok (.iaload, 1) := by decide +kernel
theorem dX4_inOrder_21 : decode cX4_inOrder 21 = .ok (.istore 5, 2) := by decide +kernel
theorem dX4_inOrder_23 : decode cX4_inOrder 23 = .ok (.iload_n 1, 1) := by decide +kernel
theorem dX4_inOrder_24 : decode cX4_inOrder 24 = .ok (.iload 5, 2) := by decide +kernel
theorem dX4_inOrder_26 : decode cX4_inOrder 26 = .ok (.ishr, 1) := by decide +kernel
theorem dX4_inOrder_27 : decode cX4_inOrder 27 = .ok (.iconst 1, 1) := by decide +kernel
theorem dX4_inOrder_28 : decode cX4_inOrder 28 = .ok (.iand, 1) := by decide +kernel
theorem dX4_inOrder_29 : decode cX4_inOrder 29 = .ok (.ifCond .eq 14, 3) := by decide +kernel
theorem dX4_inOrder_32 : decode cX4_inOrder 32 = .ok (.iload_n 3, 1) := by decide +kernel
theorem dX4_inOrder_33 : decode cX4_inOrder 33 = .ok (.iload_n 2, 1) := by decide +kernel
theorem dX4_inOrder_34 : decode cX4_inOrder 34 = .ok (.if_icmp .ne 6, 3) := by decide +kernel
theorem dX4_inOrder_37 : decode cX4_inOrder 37 = .ok (.iload 5, 2) := by decide +kernel
theorem dX4_inOrder_39 : decode cX4_inOrder 39 = .ok (.ireturn, 1) := by decide +kernel
theorem dX4_inOrder_40 : decode cX4_inOrder 40 = .ok (.iinc 3 1, 3) := by decide +kernel
theorem dX4_inOrder_43 : decode cX4_inOrder 43 = .ok (.iinc 4 1, 3) := by decide +kernel
theorem dX4_inOrder_46 : decode cX4_inOrder 46 = .ok (.goto (-41), 3) := by decide +kernel
theorem dX4_inOrder_49 : decode cX4_inOrder 49 = .ok (.iconst (-1), 1) := by decide +kernel
theorem dX4_inOrder_50 : decode cX4_inOrder 50 = .ok (.ireturn, 1) := by decide +kernel
theorem dX4_takes_0 : decode cX4_takes 0 = .ok (.aload_n 0, 1) := by decide +kernel
theorem dX4_takes_1 : decode cX4_takes 1 = .ok (.getfield 15, 3) := by decide +kernel
theorem dX4_takes_4 : decode cX4_takes 4 = .ok (.aload_n 1, 1) := by decide +kernel
theorem dX4_takes_5 : decode cX4_takes 5 = .ok (.getfield 71, 3) := by decide +kernel
theorem dX4_takes_8 : decode cX4_takes 8 = .ok (.iaload, 1) := by decide +kernel
theorem dX4_takes_9 : decode cX4_takes 9 = .ok (.iload_n 2, 1) := by decide +kernel
theorem dX4_takes_10 : decode cX4_takes 10 = .ok (.iand, 1) := by decide +kernel
theorem dX4_takes_11 : decode cX4_takes 11 = .ok (.istore_n 3, 1) := by decide +kernel
theorem dX4_takes_12 : decode cX4_takes 12 = .ok (.aload_n 0, 1) := by decide +kernel
theorem dX4_takes_13 : decode cX4_takes 13 = .ok (.aload_n 1, 1) := by decide +kernel
theorem dX4_takes_14 : decode cX4_takes 14 = .ok (.invokevirtual 74, 3) := by decide +kernel
theorem dX4_takes_17 : decode cX4_takes 17 = .ok (.invokevirtual 78, 3) := by decide +kernel
theorem dX4_takes_20 : decode cX4_takes 20 = .ok (.iload_n 2, 1) := by decide +kernel
theorem dX4_takes_21 : decode cX4_takes 21 = .ok (.iand, 1) := by decide +kernel
theorem dX4_takes_22 : decode cX4_takes 22 = .ok (.istore 4, 2) := by decide +kernel
theorem dX4_takes_24 : decode cX4_takes 24 = .ok (.aload_n 1, 1) := by decide +kernel
theorem dX4_takes_25 : decode cX4_takes 25 = .ok (.getfield 82, 3) := by decide +kernel
theorem dX4_takes_28 : decode cX4_takes 28 = .ok (.tableswitch 100 1 5 #[36, 58, 43, 64, 87], 36) := by decide +kernel
theorem dX4_takes_64 : decode cX4_takes 64 = .ok (.iload_n 3, 1) := by decide +kernel
theorem dX4_takes_65 : decode cX4_takes 65 = .ok (.iload 4, 2) := by decide +kernel
theorem dX4_takes_67 : decode cX4_takes 67 = .ok (.invokestatic 85, 3) := by decide +kernel
theorem dX4_takes_70 : decode cX4_takes 70 = .ok (.ireturn, 1) := by decide +kernel
theorem dX4_takes_71 : decode cX4_takes 71 = .ok (.iload_n 3, 1) := by decide +kernel
theorem dX4_takes_72 : decode cX4_takes 72 = .ok (.ifCond .eq 7, 3) := by decide +kernel
theorem dX4_takes_75 : decode cX4_takes 75 = .ok (.iload_n 3, 1) := by decide +kernel
theorem dX4_takes_76 : decode cX4_takes 76 = .ok (.goto 9, 3) := by decide +kernel
theorem dX4_takes_79 : decode cX4_takes 79 = .ok (.iload_n 3, 1) := by decide +kernel
theorem dX4_takes_80 : decode cX4_takes 80 = .ok (.iload 4, 2) := by decide +kernel
theorem dX4_takes_82 : decode cX4_takes 82 = .ok (.invokestatic 85, 3) := by decide +kernel
theorem dX4_takes_85 : decode cX4_takes 85 = .ok (.ireturn, 1) := by decide +kernel
theorem dX4_takes_86 : decode cX4_takes 86 = .ok (.iload 4, 2) := by decide +kernel
theorem dX4_takes_88 : decode cX4_takes 88 = .ok (.invokestatic 89, 3) := by decide +kernel
theorem dX4_takes_91 : decode cX4_takes 91 = .ok (.ireturn, 1) := by decide +kernel
theorem dX4_takes_92 : decode cX4_takes 92 = .ok (.aload_n 0, 1) := by decide +kernel
theorem dX4_takes_93 : decode cX4_takes 93 = .ok (.iload 4, 2) := by decide +kernel
theorem dX4_takes_95 : decode cX4_takes 95 = .ok (.invokestatic 89, 3) := by decide +kernel
theorem dX4_takes_98 : decode cX4_takes 98 = .ok (.iload_n 2, 1) := by decide +kernel
theorem dX4_takes_99 : decode cX4_takes 99 = .ok (.invokevirtual 94, 3) := by decide +kernel
theorem dX4_takes_102 : decode cX4_takes 102 = .ok (.ifCond .eq 7, 3) := by decide +kernel
theorem dX4_takes_105 : decode cX4_takes 105 = .ok (.iconst 0, 1) := by decide +kernel
theorem dX4_takes_106 : decode cX4_takes 106 = .ok (.goto 8, 3) := by decide +kernel
theorem dX4_takes_109 : decode cX4_takes 109 = .ok (.iload 4, 2) := by decide +kernel
theorem dX4_takes_111 : decode cX4_takes 111 = .ok (.invokestatic 89, 3) := by decide +kernel
theorem dX4_takes_114 : decode cX4_takes 114 = .ok (.ireturn, 1) := by decide +kernel
theorem dX4_takes_115 : decode cX4_takes 115 = .ok (.aload_n 0, 1) := by decide +kernel
theorem dX4_takes_116 : decode cX4_takes 116 = .ok (.aload_n 1, 1) := by decide +kernel
theorem dX4_takes_117 : decode cX4_takes 117 = .ok (.invokevirtual 74, 3) := by decide +kernel
theorem dX4_takes_120 : decode cX4_takes 120 = .ok (.iload_n 2, 1) := by decide +kernel
theorem dX4_takes_121 : decode cX4_takes 121 = .ok (.invokevirtual 98, 3) := by decide +kernel
theorem dX4_takes_124 : decode cX4_takes 124 = .ok (.invokestatic 101, 3) := by decide +kernel
theorem dX4_takes_127 : decode cX4_takes 127 = .ok (.ireturn, 1) := by decide +kernel
theorem dX4_takes_128 : decode cX4_takes 128 = .ok (.iload_n 3, 1) := by decide +kernel
theorem dX4_takes_129 : decode cX4_takes 129 = .ok (.ifCond .eq 7, 3) := by decide +kernel
theorem dX4_takes_132 : decode cX4_takes 132 = .ok (.iload_n 3, 1) := by decide +kernel
theorem dX4_takes_133 : decode cX4_takes 133 = .ok (.goto 5, 3) := by decide +kernel
theorem dX4_takes_136 : decode cX4_takes 136 = .ok (.iload 4, 2) := by decide +kernel
theorem dX4_takes_138 : decode cX4_takes 138 = .ok (.invokestatic 101, 3) := by decide +kernel
theorem dX4_takes_141 : decode cX4_takes 141 = .ok (.ireturn, 1) := by decide +kernel
theorem dX4_takesTwice_0 : decode cX4_takesTwice 0 = .ok (.iload_n 0, 1) := by decide +kernel
theorem dX4_takesTwice_1 : decode cX4_takesTwice 1 = .ok (.ifCond .eq 7, 3) := by decide +kernel
theorem dX4_takesTwice_4 : decode cX4_takesTwice 4 = .ok (.iload_n 0, 1) := by decide +kernel
theorem dX4_takesTwice_5 : decode cX4_takesTwice 5 = .ok (.goto 4, 3) := by decide +kernel
theorem dX4_takesTwice_8 : decode cX4_takesTwice 8 = .ok (.iload_n 1, 1) := by decide +kernel
theorem dX4_takesTwice_9 : decode cX4_takesTwice 9 = .ok (.invokestatic 101, 3) := by decide +kernel
theorem dX4_takesTwice_12 : decode cX4_takesTwice 12 = .ok (.istore_n 2, 1) := by decide +kernel
theorem dX4_takesTwice_13 : decode cX4_takesTwice 13 = .ok (.iload_n 0, 1) := by decide +kernel
theorem dX4_takesTwice_14 : decode cX4_takesTwice 14 = .ok (.iload_n 2, 1) := by decide +kernel
theorem dX4_takesTwice_15 : decode cX4_takesTwice 15 = .ok (.iconst (-1), 1) := by decide +kernel
theorem dX4_takesTwice_16 : decode cX4_takesTwice 16 = .ok (.ixor, 1) := by decide +kernel
theorem dX4_takesTwice_17 : decode cX4_takesTwice 17 = .ok (.iand, 1) := by decide +kernel
theorem dX4_takesTwice_18 : decode cX4_takesTwice 18 = .ok (.istore_n 3, 1) := by decide +kernel
theorem dX4_takesTwice_19 : decode cX4_takesTwice 19 = .ok (.iload_n 2, 1) := by decide +kernel
theorem dX4_takesTwice_20 : decode cX4_takesTwice 20 = .ok (.iload_n 3, 1) := by decide +kernel
theorem dX4_takesTwice_21 : decode cX4_takesTwice 21 = .ok (.ifCond .eq 7, 3) := by decide +kernel
theorem dX4_takesTwice_24 : decode cX4_takesTwice 24 = .ok (.iload_n 3, 1) := by decide +kernel
theorem dX4_takesTwice_25 : decode cX4_takesTwice 25 = .ok (.goto 8, 3) := by decide +kernel
theorem dX4_takesTwice_28 : decode cX4_takesTwice 28 = .ok (.iload_n 1, 1) := by decide +kernel
theorem dX4_takesTwice_29 : decode cX4_takesTwice 29 = .ok (.iload_n 2, 1) := by decide +kernel
theorem dX4_takesTwice_30 : decode cX4_takesTwice 30 = .ok (.iconst (-1), 1) := by decide +kernel
theorem dX4_takesTwice_31 : decode cX4_takesTwice 31 = .ok (.ixor, 1) := by decide +kernel
theorem dX4_takesTwice_32 : decode cX4_takesTwice 32 = .ok (.iand, 1) := by decide +kernel
theorem dX4_takesTwice_33 : decode cX4_takesTwice 33 = .ok (.invokestatic 101, 3) := by decide +kernel
theorem dX4_takesTwice_36 : decode cX4_takesTwice 36 = .ok (.ior, 1) := by decide +kernel
theorem dX4_takesTwice_37 : decode cX4_takesTwice 37 = .ok (.ireturn, 1) := by decide +kernel
theorem dX4_isOnly_0 : decode cX4_isOnly 0 = .ok (.iconst 0, 1) := by decide +kernel
theorem dX4_isOnly_1 : decode cX4_isOnly 1 = .ok (.istore_n 3, 1) := by decide +kernel
theorem dX4_isOnly_2 : decode cX4_isOnly 2 = .ok (.iload_n 3, 1) := by decide +kernel
theorem dX4_isOnly_3 : decode cX4_isOnly 3 = .ok (.bipush 8, 2) := by decide +kernel
theorem dX4_isOnly_5 : decode cX4_isOnly 5 = .ok (.if_icmp .ge 23, 3) := by decide +kernel
theorem dX4_isOnly_8 : decode cX4_isOnly 8 = .ok (.aload_n 0, 1) := by decide +kernel
theorem dX4_isOnly_9 : decode cX4_isOnly 9 = .ok (.getfield 15, 3) := by decide +kernel
theorem dX4_isOnly_12 : decode cX4_isOnly 12 = .ok (.iload_n 3, 1) := by decide +kernel
theorem dX4_isOnly_13 : decode cX4_isOnly 13 = .ok (.iaload, 1) := by decide +kernel
theorem dX4_isOnly_14 : decode cX4_isOnly 14 = .ok (.iload_n 2, 1) := by decide +kernel
theorem dX4_isOnly_15 : decode cX4_isOnly 15 = .ok (.iand, 1) := by decide +kernel
theorem dX4_isOnly_16 : decode cX4_isOnly 16 = .ok (.iload_n 1, 1) := by decide +kernel
theorem dX4_isOnly_17 : decode cX4_isOnly 17 = .ok (.if_icmp .ne 5, 3) := by decide +kernel
theorem dX4_isOnly_20 : decode cX4_isOnly 20 = .ok (.iconst 1, 1) := by decide +kernel
theorem dX4_isOnly_21 : decode cX4_isOnly 21 = .ok (.ireturn, 1) := by decide +kernel
theorem dX4_isOnly_22 : decode cX4_isOnly 22 = .ok (.iinc 3 1, 3) := by decide +kernel
theorem dX4_isOnly_25 : decode cX4_isOnly 25 = .ok (.goto (-23), 3) := by decide +kernel
theorem dX4_isOnly_28 : decode cX4_isOnly 28 = .ok (.iconst 0, 1) := by decide +kernel
theorem dX4_isOnly_29 : decode cX4_isOnly 29 = .ok (.ireturn, 1) := by decide +kernel
theorem dX4_placesWithMost_0 : decode cX4_placesWithMost 0 = .ok (.iconst 0, 1) := by decide +kernel
theorem dX4_placesWithMost_1 : decode cX4_placesWithMost 1 = .ok (.istore_n 3, 1) := by decide +kernel
theorem dX4_placesWithMost_2 : decode cX4_placesWithMost 2 = .ok (.iconst 0, 1) := by decide +kernel
theorem dX4_placesWithMost_3 : decode cX4_placesWithMost 3 = .ok (.istore 4, 2) := by decide +kernel
theorem dX4_placesWithMost_5 : decode cX4_placesWithMost 5 = .ok (.iload 4, 2) := by decide +kernel
theorem dX4_placesWithMost_7 : decode cX4_placesWithMost 7 = .ok (.bipush 8, 2) := by decide +kernel
theorem dX4_placesWithMost_9 : decode cX4_placesWithMost 9 = .ok (.if_icmp .ge 44, 3) := by decide +kernel
theorem dX4_placesWithMost_12 : decode cX4_placesWithMost 12 = .ok (.aload_n 0, 1) := by decide +kernel
theorem dX4_placesWithMost_13 : decode cX4_placesWithMost 13 = .ok (.getfield 15, 3) := by decide +kernel
theorem dX4_placesWithMost_16 : decode cX4_placesWithMost 16 = .ok (.iload 4, 2) := by decide +kernel
theorem dX4_placesWithMost_18 : decode cX4_placesWithMost 18 = .ok (.iaload, 1) := by decide +kernel
theorem dX4_placesWithMost_19 : decode cX4_placesWithMost 19 = .ok (.iload_n 2, 1) := by decide +kernel
theorem dX4_placesWithMost_20 : decode cX4_placesWithMost 20 = .ok (.iand, 1) := by decide +kernel
theorem dX4_placesWithMost_21 : decode cX4_placesWithMost 21 = .ok (.istore 5, 2) := by decide +kernel
theorem dX4_placesWithMost_23 : decode cX4_placesWithMost 23 = .ok (.iload_n 1, 1) := by decide +kernel
theorem dX4_placesWithMost_24 : decode cX4_placesWithMost 24 = .ok (.iload 4, 2) := by decide +kernel
theorem dX4_placesWithMost_26 : decode cX4_placesWithMost 26 = .ok (.ishr, 1) := by decide +kernel
theorem dX4_placesWithMost_27 : decode cX4_placesWithMost 27 = .ok (.iconst 1, 1) := by decide +kernel
theorem dX4_placesWithMost_28 : decode cX4_placesWithMost 28 = .ok (.iand, 1) := by decide +kernel
theorem dX4_placesWithMost_29 : decode cX4_placesWithMost 29 = .ok (.ifCond .eq 18, 3) := by decide +kernel
theorem dX4_placesWithMost_32 : decode cX4_placesWithMost 32 = .ok (.iload 5, 2) := by decide +kernel
theorem dX4_placesWithMost_34 : decode cX4_placesWithMost 34 = .ok (.invokestatic 104, 3) := by decide +kernel
theorem dX4_placesWithMost_37 : decode cX4_placesWithMost 37 = .ok (.iload_n 3, 1) := by decide +kernel
theorem dX4_placesWithMost_38 : decode cX4_placesWithMost 38 = .ok (.invokestatic 104, 3) := by decide +kernel
theorem dX4_placesWithMost_41 : decode cX4_placesWithMost 41 = .ok (.if_icmp .le 6, 3) := by decide +kernel
theorem dX4_placesWithMost_44 : decode cX4_placesWithMost 44 = .ok (.iload 5, 2) := by decide +kernel
theorem dX4_placesWithMost_46 : decode cX4_placesWithMost 46 = .ok (.istore_n 3, 1) := by decide +kernel
theorem dX4_placesWithMost_47 : decode cX4_placesWithMost 47 = .ok (.iinc 4 1, 3) := by decide +kernel
theorem dX4_placesWithMost_50 : decode cX4_placesWithMost 50 = .ok (.goto (-45), 3) := by decide +kernel
theorem dX4_placesWithMost_53 : decode cX4_placesWithMost 53 = .ok (.iload_n 3, 1) := by decide +kernel
theorem dX4_placesWithMost_54 : decode cX4_placesWithMost 54 = .ok (.ireturn, 1) := by decide +kernel
theorem dX4_firstTaken_0 : decode cX4_firstTaken 0 = .ok (.aload_n 0, 1) := by decide +kernel
theorem dX4_firstTaken_1 : decode cX4_firstTaken 1 = .ok (.getfield 15, 3) := by decide +kernel
theorem dX4_firstTaken_4 : decode cX4_firstTaken 4 = .ok (.aload_n 1, 1) := by decide +kernel
theorem dX4_firstTaken_5 : decode cX4_firstTaken 5 = .ok (.getfield 71, 3) := by decide +kernel
theorem dX4_firstTaken_8 : decode cX4_firstTaken 8 = .ok (.iaload, 1) := by decide +kernel
theorem dX4_firstTaken_9 : decode cX4_firstTaken 9 = .ok (.iload_n 2, 1) := by decide +kernel
theorem dX4_firstTaken_10 : decode cX4_firstTaken 10 = .ok (.iand, 1) := by decide +kernel
theorem dX4_firstTaken_11 : decode cX4_firstTaken 11 = .ok (.istore_n 3, 1) := by decide +kernel
theorem dX4_firstTaken_12 : decode cX4_firstTaken 12 = .ok (.iload_n 3, 1) := by decide +kernel
theorem dX4_firstTaken_13 : decode cX4_firstTaken 13 = .ok (.ifCond .eq 7, 3) := by decide +kernel
theorem dX4_firstTaken_16 : decode cX4_firstTaken 16 = .ok (.iload_n 3, 1) := by decide +kernel
theorem dX4_firstTaken_17 : decode cX4_firstTaken 17 = .ok (.goto 4, 3) := by decide +kernel
theorem dX4_firstTaken_20 : decode cX4_firstTaken 20 = .ok (.iload_n 2, 1) := by decide +kernel
theorem dX4_firstTaken_21 : decode cX4_firstTaken 21 = .ok (.invokestatic 101, 3) := by decide +kernel
theorem dX4_firstTaken_24 : decode cX4_firstTaken 24 = .ok (.istore 4, 2) := by decide +kernel
theorem dX4_firstTaken_26 : decode cX4_firstTaken 26 = .ok (.iload 4, 2) := by decide +kernel
theorem dX4_firstTaken_28 : decode cX4_firstTaken 28 = .ok (.ifCond .ne 7, 3) := by decide +kernel
theorem dX4_firstTaken_31 : decode cX4_firstTaken 31 = .ok (.iconst (-1), 1) := by decide +kernel
theorem dX4_firstTaken_32 : decode cX4_firstTaken 32 = .ok (.goto 8, 3) := by decide +kernel
theorem dX4_firstTaken_35 : decode cX4_firstTaken 35 = .ok (.iload 4, 2) := by decide +kernel
theorem dX4_firstTaken_37 : decode cX4_firstTaken 37 = .ok (.invokestatic 107, 3) := by decide +kernel
theorem dX4_firstTaken_40 : decode cX4_firstTaken 40 = .ok (.ireturn, 1) := by decide +kernel
theorem dX4_countUnlike_0 : decode cX4_countUnlike 0 = .ok (.iconst 0, 1) := by decide +kernel
theorem dX4_countUnlike_1 : decode cX4_countUnlike 1 = .ok (.istore_n 2, 1) := by decide +kernel
theorem dX4_countUnlike_2 : decode cX4_countUnlike 2 = .ok (.iconst 0, 1) := by decide +kernel
theorem dX4_countUnlike_3 : decode cX4_countUnlike 3 = .ok (.istore_n 3, 1) := by decide +kernel
theorem dX4_countUnlike_4 : decode cX4_countUnlike 4 = .ok (.iload_n 3, 1) := by decide +kernel
theorem dX4_countUnlike_5 : decode cX4_countUnlike 5 = .ok (.bipush 8, 2) := by decide +kernel
theorem dX4_countUnlike_7 : decode cX4_countUnlike 7 = .ok (.if_icmp .ge 23, 3) := by decide +kernel
theorem dX4_countUnlike_10 : decode cX4_countUnlike 10 = .ok (.aload_n 0, 1) := by decide +kernel
theorem dX4_countUnlike_11 : decode cX4_countUnlike 11 = .ok (.getfield 15, 3) := by decide +kernel
theorem dX4_countUnlike_14 : decode cX4_countUnlike 14 = .ok (.iload_n 3, 1) := by decide +kernel
theorem dX4_countUnlike_15 : decode cX4_countUnlike 15 = .ok (.iaload, 1) := by decide +kernel
theorem dX4_countUnlike_16 : decode cX4_countUnlike 16 = .ok (.iload_n 1, 1) := by decide +kernel
theorem dX4_countUnlike_17 : decode cX4_countUnlike 17 = .ok (.iand, 1) := by decide +kernel
theorem dX4_countUnlike_18 : decode cX4_countUnlike 18 = .ok (.ifCond .eq 6, 3) := by decide +kernel
theorem dX4_countUnlike_21 : decode cX4_countUnlike 21 = .ok (.iinc 2 1, 3) := by decide +kernel
theorem dX4_countUnlike_24 : decode cX4_countUnlike 24 = .ok (.iinc 3 1, 3) := by decide +kernel
theorem dX4_countUnlike_27 : decode cX4_countUnlike 27 = .ok (.goto (-23), 3) := by decide +kernel
theorem dX4_countUnlike_30 : decode cX4_countUnlike 30 = .ok (.iload_n 2, 1) := by decide +kernel
theorem dX4_countUnlike_31 : decode cX4_countUnlike 31 = .ok (.ireturn, 1) := by decide +kernel
theorem dX4_countWhoLike_0 : decode cX4_countWhoLike 0 = .ok (.iconst 0, 1) := by decide +kernel
theorem dX4_countWhoLike_1 : decode cX4_countWhoLike 1 = .ok (.istore_n 2, 1) := by decide +kernel
theorem dX4_countWhoLike_2 : decode cX4_countWhoLike 2 = .ok (.iconst 0, 1) := by decide +kernel
theorem dX4_countWhoLike_3 : decode cX4_countWhoLike 3 = .ok (.istore_n 3, 1) := by decide +kernel
theorem dX4_countWhoLike_4 : decode cX4_countWhoLike 4 = .ok (.iload_n 3, 1) := by decide +kernel
theorem dX4_countWhoLike_5 : decode cX4_countWhoLike 5 = .ok (.aload_n 0, 1) := by decide +kernel
theorem dX4_countWhoLike_6 : decode cX4_countWhoLike 6 = .ok (.getfield 44, 3) := by decide +kernel
theorem dX4_countWhoLike_9 : decode cX4_countWhoLike 9 = .ok (.if_icmp .ge 25, 3) := by decide +kernel
theorem dX4_countWhoLike_12 : decode cX4_countWhoLike 12 = .ok (.iload_n 2, 1) := by decide +kernel
theorem dX4_countWhoLike_13 : decode cX4_countWhoLike 13 = .ok (.aload_n 0, 1) := by decide +kernel
theorem dX4_countWhoLike_14 : decode cX4_countWhoLike 14 = .ok (.getfield 20, 3) := by decide +kernel
theorem dX4_countWhoLike_17 : decode cX4_countWhoLike 17 = .ok (.iload_n 3, 1) := by decide +kernel
theorem dX4_countWhoLike_18 : decode cX4_countWhoLike 18 = .ok (.aaload, 1) := by decide +kernel
theorem dX4_countWhoLike_19 : decode cX4_countWhoLike 19 = .ok (.invokevirtual 74, 3) := by decide +kernel
theorem dX4_countWhoLike_22 : decode cX4_countWhoLike 22 = .ok (.iload_n 1, 1) := by decide +kernel
theorem dX4_countWhoLike_23 : decode cX4_countWhoLike 23 = .ok (.ishr, 1) := by decide +kernel
theorem dX4_countWhoLike_24 : decode cX4_countWhoLike 24 = .ok (.iconst 1, 1) := by decide +kernel
theorem dX4_countWhoLike_25 : decode cX4_countWhoLike 25 = .ok (.iand, 1) := by decide +kernel
theorem dX4_countWhoLike_26 : decode cX4_countWhoLike 26 = .ok (.iadd, 1) := by decide +kernel
theorem dX4_countWhoLike_27 : decode cX4_countWhoLike 27 = .ok (.istore_n 2, 1) := by decide +kernel
theorem dX4_countWhoLike_28 : decode cX4_countWhoLike 28 = .ok (.iinc 3 1, 3) := by decide +kernel
theorem dX4_countWhoLike_31 : decode cX4_countWhoLike 31 = .ok (.goto (-27), 3) := by decide +kernel
theorem dX4_countWhoLike_34 : decode cX4_countWhoLike 34 = .ok (.iload_n 2, 1) := by decide +kernel
theorem dX4_countWhoLike_35 : decode cX4_countWhoLike 35 = .ok (.ireturn, 1) := by decide +kernel
theorem dX4_countWithA_0 : decode cX4_countWithA 0 = .ok (.iconst 0, 1) := by decide +kernel
theorem dX4_countWithA_1 : decode cX4_countWithA 1 = .ok (.istore_n 2, 1) := by decide +kernel
theorem dX4_countWithA_2 : decode cX4_countWithA 2 = .ok (.iconst 0, 1) := by decide +kernel
theorem dX4_countWithA_3 : decode cX4_countWithA 3 = .ok (.istore_n 3, 1) := by decide +kernel
theorem dX4_countWithA_4 : decode cX4_countWithA 4 = .ok (.iload_n 3, 1) := by decide +kernel
theorem dX4_countWithA_5 : decode cX4_countWithA 5 = .ok (.aload_n 0, 1) := by decide +kernel
theorem dX4_countWithA_6 : decode cX4_countWithA 6 = .ok (.getfield 44, 3) := by decide +kernel
theorem dX4_countWithA_9 : decode cX4_countWithA 9 = .ok (.if_icmp .ge 25, 3) := by decide +kernel
theorem dX4_countWithA_12 : decode cX4_countWithA 12 = .ok (.aload_n 0, 1) := by decide +kernel
theorem dX4_countWithA_13 : decode cX4_countWithA 13 = .ok (.getfield 20, 3) := by decide +kernel
theorem dX4_countWithA_16 : decode cX4_countWithA 16 = .ok (.iload_n 3, 1) := by decide +kernel
theorem dX4_countWithA_17 : decode cX4_countWithA 17 = .ok (.aaload, 1) := by decide +kernel
theorem dX4_countWithA_18 : decode cX4_countWithA 18 = .ok (.getfield 71, 3) := by decide +kernel
theorem dX4_countWithA_21 : decode cX4_countWithA 21 = .ok (.iload_n 1, 1) := by decide +kernel
theorem dX4_countWithA_22 : decode cX4_countWithA 22 = .ok (.if_icmp .ne 6, 3) := by decide +kernel
theorem dX4_countWithA_25 : decode cX4_countWithA 25 = .ok (.iinc 2 1, 3) := by decide +kernel
theorem dX4_countWithA_28 : decode cX4_countWithA 28 = .ok (.iinc 3 1, 3) := by decide +kernel
theorem dX4_countWithA_31 : decode cX4_countWithA 31 = .ok (.goto (-27), 3) := by decide +kernel
theorem dX4_countWithA_34 : decode cX4_countWithA 34 = .ok (.iload_n 2, 1) := by decide +kernel
theorem dX4_countWithA_35 : decode cX4_countWithA 35 = .ok (.ireturn, 1) := by decide +kernel
theorem dX4_countHad_0 : decode cX4_countHad 0 = .ok (.iconst 0, 1) := by decide +kernel
theorem dX4_countHad_1 : decode cX4_countHad 1 = .ok (.istore_n 1, 1) := by decide +kernel
theorem dX4_countHad_2 : decode cX4_countHad 2 = .ok (.iconst 0, 1) := by decide +kernel
theorem dX4_countHad_3 : decode cX4_countHad 3 = .ok (.istore_n 2, 1) := by decide +kernel
theorem dX4_countHad_4 : decode cX4_countHad 4 = .ok (.iload_n 2, 1) := by decide +kernel
theorem dX4_countHad_5 : decode cX4_countHad 5 = .ok (.aload_n 0, 1) := by decide +kernel
theorem dX4_countHad_6 : decode cX4_countHad 6 = .ok (.getfield 44, 3) := by decide +kernel
theorem dX4_countHad_9 : decode cX4_countHad 9 = .ok (.if_icmp .ge 21, 3) := by decide +kernel
theorem dX4_countHad_12 : decode cX4_countHad 12 = .ok (.iload_n 1, 1) := by decide +kernel
theorem dX4_countHad_13 : decode cX4_countHad 13 = .ok (.aload_n 0, 1) := by decide +kernel
theorem dX4_countHad_14 : decode cX4_countHad 14 = .ok (.getfield 20, 3) := by decide +kernel
theorem dX4_countHad_17 : decode cX4_countHad 17 = .ok (.iload_n 2, 1) := by decide +kernel
theorem dX4_countHad_18 : decode cX4_countHad 18 = .ok (.aaload, 1) := by decide +kernel
theorem dX4_countHad_19 : decode cX4_countHad 19 = .ok (.invokevirtual 110, 3) := by decide +kernel
theorem dX4_countHad_22 : decode cX4_countHad 22 = .ok (.iadd, 1) := by decide +kernel
theorem dX4_countHad_23 : decode cX4_countHad 23 = .ok (.istore_n 1, 1) := by decide +kernel
theorem dX4_countHad_24 : decode cX4_countHad 24 = .ok (.iinc 2 1, 3) := by decide +kernel
theorem dX4_countHad_27 : decode cX4_countHad 27 = .ok (.goto (-23), 3) := by decide +kernel
theorem dX4_countHad_30 : decode cX4_countHad 30 = .ok (.iload_n 1, 1) := by decide +kernel
theorem dX4_countHad_31 : decode cX4_countHad 31 = .ok (.ireturn, 1) := by decide +kernel
theorem dX4_rarestSort_0 : decode cX4_rarestSort 0 = .ok (.iconst (-1), 1) := by decide +kernel
theorem dX4_rarestSort_1 : decode cX4_rarestSort 1 = .ok (.istore_n 1, 1) := by decide +kernel
theorem dX4_rarestSort_2 : decode cX4_rarestSort 2 = .ok (.bipush 13, 2) := by decide +kernel
theorem dX4_rarestSort_4 : decode cX4_rarestSort 4 = .ok (.istore_n 2, 1) := by decide +kernel
theorem dX4_rarestSort_5 : decode cX4_rarestSort 5 = .ok (.iconst 0, 1) := by decide +kernel
theorem dX4_rarestSort_6 : decode cX4_rarestSort 6 = .ok (.istore_n 3, 1) := by decide +kernel
theorem dX4_rarestSort_7 : decode cX4_rarestSort 7 = .ok (.iload_n 3, 1) := by decide +kernel
theorem dX4_rarestSort_8 : decode cX4_rarestSort 8 = .ok (.bipush 8, 2) := by decide +kernel
theorem dX4_rarestSort_10 : decode cX4_rarestSort 10 = .ok (.if_icmp .ge 36, 3) := by decide +kernel
theorem dX4_rarestSort_13 : decode cX4_rarestSort 13 = .ok (.aload_n 0, 1) := by decide +kernel
theorem dX4_rarestSort_14 : decode cX4_rarestSort 14 = .ok (.getfield 15, 3) := by decide +kernel
theorem dX4_rarestSort_17 : decode cX4_rarestSort 17 = .ok (.iload_n 3, 1) := by decide +kernel
theorem dX4_rarestSort_18 : decode cX4_rarestSort 18 = .ok (.iaload, 1) := by decide +kernel
theorem dX4_rarestSort_19 : decode cX4_rarestSort 19 = .ok (.invokestatic 104, 3) := by decide +kernel
theorem dX4_rarestSort_22 : decode cX4_rarestSort 22 = .ok (.istore 4, 2) := by decide +kernel
theorem dX4_rarestSort_24 : decode cX4_rarestSort 24 = .ok (.iload 4, 2) := by decide +kernel
theorem dX4_rarestSort_26 : decode cX4_rarestSort 26 = .ok (.ifCond .le 14, 3) := by decide +kernel
theorem dX4_rarestSort_29 : decode cX4_rarestSort 29 = .ok (.iload 4, 2) := by decide +kernel
theorem dX4_rarestSort_31 : decode cX4_rarestSort 31 = .ok (.iload_n 2, 1) := by decide +kernel
theorem dX4_rarestSort_32 : decode cX4_rarestSort 32 = .ok (.if_icmp .ge 8, 3) := by decide +kernel
theorem dX4_rarestSort_35 : decode cX4_rarestSort 35 = .ok (.iload_n 3, 1) := by decide +kernel
theorem dX4_rarestSort_36 : decode cX4_rarestSort 36 = .ok (.istore_n 1, 1) := by decide +kernel
theorem dX4_rarestSort_37 : decode cX4_rarestSort 37 = .ok (.iload 4, 2) := by decide +kernel
theorem dX4_rarestSort_39 : decode cX4_rarestSort 39 = .ok (.istore_n 2, 1) := by decide +kernel
theorem dX4_rarestSort_40 : decode cX4_rarestSort 40 = .ok (.iinc 3 1, 3) := by decide +kernel
theorem dX4_rarestSort_43 : decode cX4_rarestSort 43 = .ok (.goto (-36), 3) := by decide +kernel
theorem dX4_rarestSort_46 : decode cX4_rarestSort 46 = .ok (.iload_n 1, 1) := by decide +kernel
theorem dX4_rarestSort_47 : decode cX4_rarestSort 47 = .ok (.ireturn, 1) := by decide +kernel
theorem dX4_commonestSort_0 : decode cX4_commonestSort 0 = .ok (.iconst (-1), 1) := by decide +kernel
theorem dX4_commonestSort_1 : decode cX4_commonestSort 1 = .ok (.istore_n 1, 1) := by decide +kernel
theorem dX4_commonestSort_2 : decode cX4_commonestSort 2 = .ok (.iconst 0, 1) := by decide +kernel
theorem dX4_commonestSort_3 : decode cX4_commonestSort 3 = .ok (.istore_n 2, 1) := by decide +kernel
theorem dX4_commonestSort_4 : decode cX4_commonestSort 4 = .ok (.iconst 0, 1) := by decide +kernel
theorem dX4_commonestSort_5 : decode cX4_commonestSort 5 = .ok (.istore_n 3, 1) := by decide +kernel
theorem dX4_commonestSort_6 : decode cX4_commonestSort 6 = .ok (.iload_n 3, 1) := by decide +kernel
theorem dX4_commonestSort_7 : decode cX4_commonestSort 7 = .ok (.bipush 8, 2) := by decide +kernel
theorem dX4_commonestSort_9 : decode cX4_commonestSort 9 = .ok (.if_icmp .ge 31, 3) := by decide +kernel
theorem dX4_commonestSort_12 : decode cX4_commonestSort 12 = .ok (.aload_n 0, 1) := by decide +kernel
theorem dX4_commonestSort_13 : decode cX4_commonestSort 13 = .ok (.getfield 15, 3) := by decide +kernel
theorem dX4_commonestSort_16 : decode cX4_commonestSort 16 = .ok (.iload_n 3, 1) := by decide +kernel
theorem dX4_commonestSort_17 : decode cX4_commonestSort 17 = .ok (.iaload, 1) := by decide +kernel
theorem dX4_commonestSort_18 : decode cX4_commonestSort 18 = .ok (.invokestatic 104, 3) := by decide +kernel
theorem dX4_commonestSort_21 : decode cX4_commonestSort 21 = .ok (.istore 4, 2) := by decide +kernel
theorem dX4_commonestSort_23 : decode cX4_commonestSort 23 = .ok (.iload 4, 2) := by decide +kernel
theorem dX4_commonestSort_25 : decode cX4_commonestSort 25 = .ok (.iload_n 2, 1) := by decide +kernel
theorem dX4_commonestSort_26 : decode cX4_commonestSort 26 = .ok (.if_icmp .le 8, 3) := by decide +kernel
theorem dX4_commonestSort_29 : decode cX4_commonestSort 29 = .ok (.iload_n 3, 1) := by decide +kernel
theorem dX4_commonestSort_30 : decode cX4_commonestSort 30 = .ok (.istore_n 1, 1) := by decide +kernel
theorem dX4_commonestSort_31 : decode cX4_commonestSort 31 = .ok (.iload 4, 2) := by decide +kernel
theorem dX4_commonestSort_33 : decode cX4_commonestSort 33 = .ok (.istore_n 2, 1) := by decide +kernel
theorem dX4_commonestSort_34 : decode cX4_commonestSort 34 = .ok (.iinc 3 1, 3) := by decide +kernel
theorem dX4_commonestSort_37 : decode cX4_commonestSort 37 = .ok (.goto (-31), 3) := by decide +kernel
theorem dX4_commonestSort_40 : decode cX4_commonestSort 40 = .ok (.iload_n 1, 1) := by decide +kernel
theorem dX4_commonestSort_41 : decode cX4_commonestSort 41 = .ok (.ireturn, 1) := by decide +kernel
theorem dX4_firstWithMost_0 : decode cX4_firstWithMost 0 = .ok (.iconst (-1), 1) := by decide +kernel
theorem dX4_firstWithMost_1 : decode cX4_firstWithMost 1 = .ok (.istore_n 2, 1) := by decide +kernel
theorem dX4_firstWithMost_2 : decode cX4_firstWithMost 2 = .ok (.iconst 0, 1) := by decide +kernel
theorem dX4_firstWithMost_3 : decode cX4_firstWithMost 3 = .ok (.istore_n 3, 1) := by decide +kernel
theorem dX4_firstWithMost_4 : decode cX4_firstWithMost 4 = .ok (.iconst 0, 1) := by decide +kernel
theorem dX4_firstWithMost_5 : decode cX4_firstWithMost 5 = .ok (.istore 4, 2) := by decide +kernel
theorem dX4_firstWithMost_7 : decode cX4_firstWithMost 7 = .ok (.iload 4, 2) := by decide +kernel
theorem dX4_firstWithMost_9 : decode cX4_firstWithMost 9 = .ok (.aload_n 0, 1) := by decide +kernel
theorem dX4_firstWithMost_10 : decode cX4_firstWithMost 10 = .ok (.getfield 44, 3) := by decide +kernel
theorem dX4_firstWithMost_13 : decode cX4_firstWithMost 13 = .ok (.if_icmp .ge 39, 3) := by decide +kernel
theorem dX4_firstWithMost_16 : decode cX4_firstWithMost 16 = .ok (.aload_n 0, 1) := by decide +kernel
theorem dX4_firstWithMost_17 : decode cX4_firstWithMost 17 = .ok (.getfield 20, 3) := by decide +kernel
theorem dX4_firstWithMost_20 : decode cX4_firstWithMost 20 = .ok (.iload 4, 2) := by decide +kernel
theorem dX4_firstWithMost_22 : decode cX4_firstWithMost 22 = .ok (.aaload, 1) := by decide +kernel
theorem dX4_firstWithMost_23 : decode cX4_firstWithMost 23 = .ok (.iload_n 1, 1) := by decide +kernel
theorem dX4_firstWithMost_24 : decode cX4_firstWithMost 24 = .ok (.invokestatic 113, 3) := by decide +kernel
theorem dX4_firstWithMost_27 : decode cX4_firstWithMost 27 = .ok (.istore 5, 2) := by decide +kernel
theorem dX4_firstWithMost_29 : decode cX4_firstWithMost 29 = .ok (.iload_n 2, 1) := by decide +kernel
theorem dX4_firstWithMost_30 : decode cX4_firstWithMost 30 = .ok (.iconst (-1), 1) := by decide +kernel
theorem dX4_firstWithMost_31 : decode cX4_firstWithMost 31 = .ok (.if_icmp .eq 9, 3) := by decide +kernel
theorem dX4_firstWithMost_34 : decode cX4_firstWithMost 34 = .ok (.iload 5, 2) := by decide +kernel
theorem dX4_firstWithMost_36 : decode cX4_firstWithMost 36 = .ok (.iload_n 3, 1) := by decide +kernel
theorem dX4_firstWithMost_37 : decode cX4_firstWithMost 37 = .ok (.if_icmp .le 9, 3) := by decide +kernel
theorem dX4_firstWithMost_40 : decode cX4_firstWithMost 40 = .ok (.iload 4, 2) := by decide +kernel
theorem dX4_firstWithMost_42 : decode cX4_firstWithMost 42 = .ok (.istore_n 2, 1) := by decide +kernel
theorem dX4_firstWithMost_43 : decode cX4_firstWithMost 43 = .ok (.iload 5, 2) := by decide +kernel
theorem dX4_firstWithMost_45 : decode cX4_firstWithMost 45 = .ok (.istore_n 3, 1) := by decide +kernel
theorem dX4_firstWithMost_46 : decode cX4_firstWithMost 46 = .ok (.iinc 4 1, 3) := by decide +kernel
theorem dX4_firstWithMost_49 : decode cX4_firstWithMost 49 = .ok (.goto (-42), 3) := by decide +kernel
theorem dX4_firstWithMost_52 : decode cX4_firstWithMost 52 = .ok (.iload_n 2, 1) := by decide +kernel
theorem dX4_firstWithMost_53 : decode cX4_firstWithMost 53 = .ok (.ireturn, 1) := by decide +kernel
theorem dX4_measure_0 : decode cX4_measure 0 = .ok (.iload_n 1, 1) := by decide +kernel
theorem dX4_measure_1 : decode cX4_measure 1 = .ok (.lookupswitch 38 #[(0, 27), (1, 33)], 27) := by decide +kernel
theorem dX4_measure_28 : decode cX4_measure 28 = .ok (.aload_n 0, 1) := by decide +kernel
theorem dX4_measure_29 : decode cX4_measure 29 = .ok (.getfield 68, 3) := by decide +kernel
theorem dX4_measure_32 : decode cX4_measure 32 = .ok (.ineg, 1) := by decide +kernel
theorem dX4_measure_33 : decode cX4_measure 33 = .ok (.ireturn, 1) := by decide +kernel
theorem dX4_measure_34 : decode cX4_measure 34 = .ok (.aload_n 0, 1) := by decide +kernel
theorem dX4_measure_35 : decode cX4_measure 35 = .ok (.getfield 68, 3) := by decide +kernel
theorem dX4_measure_38 : decode cX4_measure 38 = .ok (.ireturn, 1) := by decide +kernel
theorem dX4_measure_39 : decode cX4_measure 39 = .ok (.aload_n 0, 1) := by decide +kernel
theorem dX4_measure_40 : decode cX4_measure 40 = .ok (.invokevirtual 110, 3) := by decide +kernel
theorem dX4_measure_43 : decode cX4_measure 43 = .ok (.ireturn, 1) := by decide +kernel
theorem dX4_bringers_0 : decode cX4_bringers 0 = .ok (.iconst 0, 1) := by decide +kernel
theorem dX4_bringers_1 : decode cX4_bringers 1 = .ok (.istore_n 1, 1) := by decide +kernel
theorem dX4_bringers_2 : decode cX4_bringers 2 = .ok (.iconst 0, 1) := by decide +kernel
theorem dX4_bringers_3 : decode cX4_bringers 3 = .ok (.istore_n 2, 1) := by decide +kernel
theorem dX4_bringers_4 : decode cX4_bringers 4 = .ok (.iload_n 2, 1) := by decide +kernel
theorem dX4_bringers_5 : decode cX4_bringers 5 = .ok (.aload_n 0, 1) := by decide +kernel
theorem dX4_bringers_6 : decode cX4_bringers 6 = .ok (.getfield 44, 3) := by decide +kernel
theorem dX4_bringers_9 : decode cX4_bringers 9 = .ok (.if_icmp .ge 28, 3) := by decide +kernel
theorem dX4_bringers_12 : decode cX4_bringers 12 = .ok (.aload_n 0, 1) := by decide +kernel
theorem dX4_bringers_13 : decode cX4_bringers 13 = .ok (.getfield 20, 3) := by decide +kernel
theorem dX4_bringers_16 : decode cX4_bringers 16 = .ok (.iload_n 2, 1) := by decide +kernel
theorem dX4_bringers_17 : decode cX4_bringers 17 = .ok (.aaload, 1) := by decide +kernel
theorem dX4_bringers_18 : decode cX4_bringers 18 = .ok (.getfield 117, 3) := by decide +kernel
theorem dX4_bringers_21 : decode cX4_bringers 21 = .ok (.iconst (-1), 1) := by decide +kernel
theorem dX4_bringers_22 : decode cX4_bringers 22 = .ok (.if_icmp .eq 9, 3) := by decide +kernel
theorem dX4_bringers_25 : decode cX4_bringers 25 = .ok (.iload_n 1, 1) := by decide +kernel
theorem dX4_bringers_26 : decode cX4_bringers 26 = .ok (.iconst 1, 1) := by decide +kernel
theorem dX4_bringers_27 : decode cX4_bringers 27 = .ok (.iload_n 2, 1) := by decide +kernel
theorem dX4_bringers_28 : decode cX4_bringers 28 = .ok (.ishl, 1) := by decide +kernel
theorem dX4_bringers_29 : decode cX4_bringers 29 = .ok (.ior, 1) := by decide +kernel
theorem dX4_bringers_30 : decode cX4_bringers 30 = .ok (.istore_n 1, 1) := by decide +kernel
theorem dX4_bringers_31 : decode cX4_bringers 31 = .ok (.iinc 2 1, 3) := by decide +kernel
theorem dX4_bringers_34 : decode cX4_bringers 34 = .ok (.goto (-30), 3) := by decide +kernel
theorem dX4_bringers_37 : decode cX4_bringers 37 = .ok (.iload_n 1, 1) := by decide +kernel
theorem dX4_bringers_38 : decode cX4_bringers 38 = .ok (.ireturn, 1) := by decide +kernel
theorem dX4_wrongPair_0 : decode cX4_wrongPair 0 = .ok (.aload_n 0, 1) := by decide +kernel
theorem dX4_wrongPair_1 : decode cX4_wrongPair 1 = .ok (.aload_n 1, 1) := by decide +kernel
theorem dX4_wrongPair_2 : decode cX4_wrongPair 2 = .ok (.iload_n 2, 1) := by decide +kernel
theorem dX4_wrongPair_3 : decode cX4_wrongPair 3 = .ok (.invokevirtual 120, 3) := by decide +kernel
theorem dX4_wrongPair_6 : decode cX4_wrongPair 6 = .ok (.istore_n 3, 1) := by decide +kernel
theorem dX4_wrongPair_7 : decode cX4_wrongPair 7 = .ok (.aload_n 0, 1) := by decide +kernel
theorem dX4_wrongPair_8 : decode cX4_wrongPair 8 = .ok (.getfield 51, 3) := by decide +kernel
theorem dX4_wrongPair_11 : decode cX4_wrongPair 11 = .ok (.istore 4, 2) := by decide +kernel
theorem dX4_wrongPair_13 : decode cX4_wrongPair 13 = .ok (.iconst 0, 1) := by decide +kernel
theorem dX4_wrongPair_14 : decode cX4_wrongPair 14 = .ok (.istore 5, 2) := by decide +kernel
theorem dX4_wrongPair_16 : decode cX4_wrongPair 16 = .ok (.iload 5, 2) := by decide +kernel
theorem dX4_wrongPair_18 : decode cX4_wrongPair 18 = .ok (.iload_n 2, 1) := by decide +kernel
theorem dX4_wrongPair_19 : decode cX4_wrongPair 19 = .ok (.if_icmp .ge 97, 3) := by decide +kernel
theorem dX4_wrongPair_22 : decode cX4_wrongPair 22 = .ok (.aload_n 0, 1) := by decide +kernel
theorem dX4_wrongPair_23 : decode cX4_wrongPair 23 = .ok (.iload_n 3, 1) := by decide +kernel
theorem dX4_wrongPair_24 : decode cX4_wrongPair 24 = .ok (.iload 5, 2) := by decide +kernel
theorem dX4_wrongPair_26 : decode cX4_wrongPair 26 = .ok (.invokevirtual 124, 3) := by decide +kernel
theorem dX4_wrongPair_29 : decode cX4_wrongPair 29 = .ok (.istore 6, 2) := by decide +kernel
theorem dX4_wrongPair_31 : decode cX4_wrongPair 31 = .ok (.iload 6, 2) := by decide +kernel
theorem dX4_wrongPair_33 : decode cX4_wrongPair 33 = .ok (.iconst (-1), 1) := by decide +kernel
theorem dX4_wrongPair_34 : decode cX4_wrongPair 34 = .ok (.if_icmp .eq 18, 3) := by decide +kernel
theorem dX4_wrongPair_37 : decode cX4_wrongPair 37 = .ok (.aload_n 1, 1) := by decide +kernel
theorem dX4_wrongPair_38 : decode cX4_wrongPair 38 = .ok (.iconst 2, 1) := by decide +kernel
theorem dX4_wrongPair_39 : decode cX4_wrongPair 39 = .ok (.iload 5, 2) := by decide +kernel
theorem dX4_wrongPair_41 : decode cX4_wrongPair 41 = .ok (.imul, 1) := by decide +kernel
theorem dX4_wrongPair_42 : decode cX4_wrongPair 42 = .ok (.invokevirtual 127, 3) := by decide +kernel
theorem dX4_wrongPair_45 : decode cX4_wrongPair 45 = .ok (.iload 6, 2) := by decide +kernel
theorem dX4_wrongPair_47 : decode cX4_wrongPair 47 = .ok (.i2l, 1) := by decide +kernel
theorem dX4_wrongPair_48 : decode cX4_wrongPair 48 = .ok (.lcmp, 1) := by decide +kernel
theorem dX4_wrongPair_49 : decode cX4_wrongPair 49 = .ok (.ifCond .eq 6, 3) := by decide +kernel
theorem dX4_wrongPair_52 : decode cX4_wrongPair 52 = .ok (.iload 5, 2) := by decide +kernel
theorem dX4_wrongPair_54 : decode cX4_wrongPair 54 = .ok (.ireturn, 1) := by decide +kernel
theorem dX4_wrongPair_55 : decode cX4_wrongPair 55 = .ok (.aload_n 0, 1) := by decide +kernel
theorem dX4_wrongPair_56 : decode cX4_wrongPair 56 = .ok (.aload_n 0, 1) := by decide +kernel
theorem dX4_wrongPair_57 : decode cX4_wrongPair 57 = .ok (.getfield 20, 3) := by decide +kernel
theorem dX4_wrongPair_60 : decode cX4_wrongPair 60 = .ok (.iload 6, 2) := by decide +kernel
theorem dX4_wrongPair_62 : decode cX4_wrongPair 62 = .ok (.aaload, 1) := by decide +kernel
theorem dX4_wrongPair_63 : decode cX4_wrongPair 63 = .ok (.iload 4, 2) := by decide +kernel
theorem dX4_wrongPair_65 : decode cX4_wrongPair 65 = .ok (.invokevirtual 133, 3) := by decide +kernel
theorem dX4_wrongPair_68 : decode cX4_wrongPair 68 = .ok (.istore 7, 2) := by decide +kernel
theorem dX4_wrongPair_70 : decode cX4_wrongPair 70 = .ok (.aload_n 1, 1) := by decide +kernel
theorem dX4_wrongPair_71 : decode cX4_wrongPair 71 = .ok (.iconst 2, 1) := by decide +kernel
theorem dX4_wrongPair_72 : decode cX4_wrongPair 72 = .ok (.iload 5, 2) := by decide +kernel
theorem dX4_wrongPair_74 : decode cX4_wrongPair 74 = .ok (.imul, 1) := by decide +kernel
theorem dX4_wrongPair_75 : decode cX4_wrongPair 75 = .ok (.iconst 1, 1) := by decide +kernel
theorem dX4_wrongPair_76 : decode cX4_wrongPair 76 = .ok (.iadd, 1) := by decide +kernel
theorem dX4_wrongPair_77 : decode cX4_wrongPair 77 = .ok (.invokevirtual 127, 3) := by decide +kernel
theorem dX4_wrongPair_80 : decode cX4_wrongPair 80 = .ok (.aload_n 0, 1) := by decide +kernel
theorem dX4_wrongPair_81 : decode cX4_wrongPair 81 = .ok (.aload_n 0, 1) := by decide +kernel
theorem dX4_wrongPair_82 : decode cX4_wrongPair 82 = .ok (.getfield 20, 3) := by decide +kernel
theorem dX4_wrongPair_85 : decode cX4_wrongPair 85 = .ok (.iload 6, 2) := by decide +kernel
theorem dX4_wrongPair_87 : decode cX4_wrongPair 87 = .ok (.aaload, 1) := by decide +kernel
theorem dX4_wrongPair_88 : decode cX4_wrongPair 88 = .ok (.iload 7, 2) := by decide +kernel
theorem dX4_wrongPair_90 : decode cX4_wrongPair 90 = .ok (.invokevirtual 136, 3) := by decide +kernel
theorem dX4_wrongPair_93 : decode cX4_wrongPair 93 = .ok (.i2l, 1) := by decide +kernel
theorem dX4_wrongPair_94 : decode cX4_wrongPair 94 = .ok (.lcmp, 1) := by decide +kernel
theorem dX4_wrongPair_95 : decode cX4_wrongPair 95 = .ok (.ifCond .eq 6, 3) := by decide +kernel
theorem dX4_wrongPair_98 : decode cX4_wrongPair 98 = .ok (.iload 5, 2) := by decide +kernel
theorem dX4_wrongPair_100 : decode cX4_wrongPair 100 = .ok (.ireturn, 1) := by decide +kernel
theorem dX4_wrongPair_101 : decode cX4_wrongPair 101 = .ok (.iload 4, 2) := by decide +kernel
theorem dX4_wrongPair_103 : decode cX4_wrongPair 103 = .ok (.iload 7, 2) := by decide +kernel
theorem dX4_wrongPair_105 : decode cX4_wrongPair 105 = .ok (.iconst (-1), 1) := by decide +kernel
theorem dX4_wrongPair_106 : decode cX4_wrongPair 106 = .ok (.ixor, 1) := by decide +kernel
theorem dX4_wrongPair_107 : decode cX4_wrongPair 107 = .ok (.iand, 1) := by decide +kernel
theorem dX4_wrongPair_108 : decode cX4_wrongPair 108 = .ok (.istore 4, 2) := by decide +kernel
theorem dX4_wrongPair_110 : decode cX4_wrongPair 110 = .ok (.iinc 5 1, 3) := by decide +kernel
theorem dX4_wrongPair_113 : decode cX4_wrongPair 113 = .ok (.goto (-97), 3) := by decide +kernel
theorem dX4_wrongPair_116 : decode cX4_wrongPair 116 = .ok (.iconst (-1), 1) := by decide +kernel
theorem dX4_wrongPair_117 : decode cX4_wrongPair 117 = .ok (.ireturn, 1) := by decide +kernel
theorem dX4_toldLookers_0 : decode cX4_toldLookers 0 = .ok (.iconst 0, 1) := by decide +kernel
theorem dX4_toldLookers_1 : decode cX4_toldLookers 1 = .ok (.istore_n 3, 1) := by decide +kernel
theorem dX4_toldLookers_2 : decode cX4_toldLookers 2 = .ok (.iconst 0, 1) := by decide +kernel
theorem dX4_toldLookers_3 : decode cX4_toldLookers 3 = .ok (.istore 4, 2) := by decide +kernel
theorem dX4_toldLookers_5 : decode cX4_toldLookers 5 = .ok (.iload 4, 2) := by decide +kernel
theorem dX4_toldLookers_7 : decode cX4_toldLookers 7 = .ok (.iload_n 2, 1) := by decide +kernel
theorem dX4_toldLookers_8 : decode cX4_toldLookers 8 = .ok (.if_icmp .ge 45, 3) := by decide +kernel
theorem dX4_toldLookers_11 : decode cX4_toldLookers 11 = .ok (.aload_n 1, 1) := by decide +kernel
theorem dX4_toldLookers_12 : decode cX4_toldLookers 12 = .ok (.iconst 2, 1) := by decide +kernel
theorem dX4_toldLookers_13 : decode cX4_toldLookers 13 = .ok (.iload 4, 2) := by decide +kernel
theorem dX4_toldLookers_15 : decode cX4_toldLookers 15 = .ok (.imul, 1) := by decide +kernel
theorem dX4_toldLookers_16 : decode cX4_toldLookers 16 = .ok (.invokevirtual 127, 3) := by decide +kernel
theorem dX4_toldLookers_19 : decode cX4_toldLookers 19 = .ok (.lstore 5, 2) := by decide +kernel
theorem dX4_toldLookers_21 : decode cX4_toldLookers 21 = .ok (.lload 5, 2) := by decide +kernel
theorem dX4_toldLookers_23 : decode cX4_toldLookers 23 = .ok (.lconst 0, 1) := by decide +kernel
theorem dX4_toldLookers_24 : decode cX4_toldLookers 24 = .ok (.lcmp, 1) := by decide +kernel
theorem dX4_toldLookers_25 : decode cX4_toldLookers 25 = .ok (.ifCond .lt 22, 3) := by decide +kernel
theorem dX4_toldLookers_28 : decode cX4_toldLookers 28 = .ok (.lload 5, 2) := by decide +kernel
theorem dX4_toldLookers_30 : decode cX4_toldLookers 30 = .ok (.aload_n 0, 1) := by decide +kernel
theorem dX4_toldLookers_31 : decode cX4_toldLookers 31 = .ok (.getfield 44, 3) := by decide +kernel
theorem dX4_toldLookers_34 : decode cX4_toldLookers 34 = .ok (.i2l, 1) := by decide +kernel
theorem dX4_toldLookers_35 : decode cX4_toldLookers 35 = .ok (.lcmp, 1) := by decide +kernel
theorem dX4_toldLookers_36 : decode cX4_toldLookers 36 = .ok (.ifCond .ge 11, 3) := by decide +kernel
theorem dX4_toldLookers_39 : decode cX4_toldLookers 39 = .ok (.iload_n 3, 1) := by decide +kernel
theorem dX4_toldLookers_40 : decode cX4_toldLookers 40 = .ok (.iconst 1, 1) := by decide +kernel
theorem dX4_toldLookers_41 : decode cX4_toldLookers 41 = .ok (.lload 5, 2) := by decide +kernel
theorem dX4_toldLookers_43 : decode cX4_toldLookers 43 = .ok (.l2i, 1) := by decide +kernel
theorem dX4_toldLookers_44 : decode cX4_toldLookers 44 = .ok (.ishl, 1) := by decide +kernel
theorem dX4_toldLookers_45 : decode cX4_toldLookers 45 = .ok (.ior, 1) := by decide +kernel
theorem dX4_toldLookers_46 : decode cX4_toldLookers 46 = .ok (.istore_n 3, 1) := by decide +kernel
theorem dX4_toldLookers_47 : decode cX4_toldLookers 47 = .ok (.iinc 4 1, 3) := by decide +kernel
theorem dX4_toldLookers_50 : decode cX4_toldLookers 50 = .ok (.goto (-45), 3) := by decide +kernel
theorem dX4_toldLookers_53 : decode cX4_toldLookers 53 = .ok (.iload_n 3, 1) := by decide +kernel
theorem dX4_toldLookers_54 : decode cX4_toldLookers 54 = .ok (.ireturn, 1) := by decide +kernel
theorem dX4_draw_0 : decode cX4_draw 0 = .ok (.aload_n 0, 1) := by decide +kernel
theorem dX4_draw_1 : decode cX4_draw 1 = .ok (.aload_n 0, 1) := by decide +kernel
theorem dX4_draw_2 : decode cX4_draw 2 = .ok (.getfield 27, 3) := by decide +kernel
theorem dX4_draw_5 : decode cX4_draw 5 = .ok (.ldc 139, 2) := by decide +kernel
theorem dX4_draw_7 : decode cX4_draw 7 = .ok (.imul, 1) := by decide +kernel
theorem dX4_draw_8 : decode cX4_draw 8 = .ok (.sipush 12345, 3) := by decide +kernel
theorem dX4_draw_11 : decode cX4_draw 11 = .ok (.iadd, 1) := by decide +kernel
theorem dX4_draw_12 : decode cX4_draw 12 = .ok (.putfield 27, 3) := by decide +kernel
theorem dX4_draw_15 : decode cX4_draw 15 = .ok (.iload_n 1, 1) := by decide +kernel
theorem dX4_draw_16 : decode cX4_draw 16 = .ok (.ifCond .le 15, 3) := by decide +kernel
theorem dX4_draw_19 : decode cX4_draw 19 = .ok (.aload_n 0, 1) := by decide +kernel
theorem dX4_draw_20 : decode cX4_draw 20 = .ok (.getfield 27, 3) := by decide +kernel
theorem dX4_draw_23 : decode cX4_draw 23 = .ok (.bipush 16, 2) := by decide +kernel
theorem dX4_draw_25 : decode cX4_draw 25 = .ok (.iushr, 1) := by decide +kernel
theorem dX4_draw_26 : decode cX4_draw 26 = .ok (.iload_n 1, 1) := by decide +kernel
theorem dX4_draw_27 : decode cX4_draw 27 = .ok (.irem, 1) := by decide +kernel
theorem dX4_draw_28 : decode cX4_draw 28 = .ok (.goto 4, 3) := by decide +kernel
theorem dX4_draw_31 : decode cX4_draw 31 = .ok (.iconst 0, 1) := by decide +kernel
theorem dX4_draw_32 : decode cX4_draw 32 = .ok (.ireturn, 1) := by decide +kernel
theorem dX4_drawWhoCome_0 : decode cX4_drawWhoCome 0 = .ok (.iconst 0, 1) := by decide +kernel
theorem dX4_drawWhoCome_1 : decode cX4_drawWhoCome 1 = .ok (.istore_n 1, 1) := by decide +kernel
theorem dX4_drawWhoCome_2 : decode cX4_drawWhoCome 2 = .ok (.iconst 0, 1) := by decide +kernel
theorem dX4_drawWhoCome_3 : decode cX4_drawWhoCome 3 = .ok (.istore_n 2, 1) := by decide +kernel
theorem dX4_drawWhoCome_4 : decode cX4_drawWhoCome 4 = .ok (.iload_n 2, 1) := by decide +kernel
theorem dX4_drawWhoCome_5 : decode cX4_drawWhoCome 5 = .ok (.aload_n 0, 1) := by decide +kernel
theorem dX4_drawWhoCome_6 : decode cX4_drawWhoCome 6 = .ok (.getfield 44, 3) := by decide +kernel
theorem dX4_drawWhoCome_9 : decode cX4_drawWhoCome 9 = .ok (.if_icmp .ge 33, 3) := by decide +kernel
theorem dX4_drawWhoCome_12 : decode cX4_drawWhoCome 12 = .ok (.aload_n 0, 1) := by decide +kernel
theorem dX4_drawWhoCome_13 : decode cX4_drawWhoCome 13 = .ok (.bipush 12, 2) := by decide +kernel
theorem dX4_drawWhoCome_15 : decode cX4_drawWhoCome 15 = .ok (.invokevirtual 140, 3) := by decide +kernel
theorem dX4_drawWhoCome_18 : decode cX4_drawWhoCome 18 = .ok (.aload_n 0, 1) := by decide +kernel
theorem dX4_drawWhoCome_19 : decode cX4_drawWhoCome 19 = .ok (.getfield 20, 3) := by decide +kernel
theorem dX4_drawWhoCome_22 : decode cX4_drawWhoCome 22 = .ok (.iload_n 2, 1) := by decide +kernel
theorem dX4_drawWhoCome_23 : decode cX4_drawWhoCome 23 = .ok (.aaload, 1) := by decide +kernel
theorem dX4_drawWhoCome_24 : decode cX4_drawWhoCome 24 = .ok (.getfield 143, 3) := by decide +kernel
theorem dX4_drawWhoCome_27 : decode cX4_drawWhoCome 27 = .ok (.if_icmp .ge 9, 3) := by decide +kernel
theorem dX4_drawWhoCome_30 : decode cX4_drawWhoCome 30 = .ok (.iload_n 1, 1) := by decide +kernel
theorem dX4_drawWhoCome_31 : decode cX4_drawWhoCome 31 = .ok (.iconst 1, 1) := by decide +kernel
theorem dX4_drawWhoCome_32 : decode cX4_drawWhoCome 32 = .ok (.iload_n 2, 1) := by decide +kernel
theorem dX4_drawWhoCome_33 : decode cX4_drawWhoCome 33 = .ok (.ishl, 1) := by decide +kernel
theorem dX4_drawWhoCome_34 : decode cX4_drawWhoCome 34 = .ok (.ior, 1) := by decide +kernel
theorem dX4_drawWhoCome_35 : decode cX4_drawWhoCome 35 = .ok (.istore_n 1, 1) := by decide +kernel
theorem dX4_drawWhoCome_36 : decode cX4_drawWhoCome 36 = .ok (.iinc 2 1, 3) := by decide +kernel
theorem dX4_drawWhoCome_39 : decode cX4_drawWhoCome 39 = .ok (.goto (-35), 3) := by decide +kernel
theorem dX4_drawWhoCome_42 : decode cX4_drawWhoCome 42 = .ok (.iload_n 1, 1) := by decide +kernel
theorem dX4_drawWhoCome_43 : decode cX4_drawWhoCome 43 = .ok (.ireturn, 1) := by decide +kernel
theorem dX4_drawThings_0 : decode cX4_drawThings 0 = .ok (.iconst 0, 1) := by decide +kernel
theorem dX4_drawThings_1 : decode cX4_drawThings 1 = .ok (.istore_n 1, 1) := by decide +kernel
theorem dX4_drawThings_2 : decode cX4_drawThings 2 = .ok (.iload_n 1, 1) := by decide +kernel
theorem dX4_drawThings_3 : decode cX4_drawThings 3 = .ok (.bipush 12, 2) := by decide +kernel
theorem dX4_drawThings_5 : decode cX4_drawThings 5 = .ok (.if_icmp .ge 30, 3) := by decide +kernel
theorem dX4_drawThings_8 : decode cX4_drawThings 8 = .ok (.aload_n 0, 1) := by decide +kernel
theorem dX4_drawThings_9 : decode cX4_drawThings 9 = .ok (.getfield 9, 3) := by decide +kernel
theorem dX4_drawThings_12 : decode cX4_drawThings 12 = .ok (.iload_n 1, 1) := by decide +kernel
theorem dX4_drawThings_13 : decode cX4_drawThings 13 = .ok (.iaload, 1) := by decide +kernel
theorem dX4_drawThings_14 : decode cX4_drawThings 14 = .ok (.iconst (-1), 1) := by decide +kernel
theorem dX4_drawThings_15 : decode cX4_drawThings 15 = .ok (.if_icmp .ne 14, 3) := by decide +kernel
theorem dX4_drawThings_18 : decode cX4_drawThings 18 = .ok (.aload_n 0, 1) := by decide +kernel
theorem dX4_drawThings_19 : decode cX4_drawThings 19 = .ok (.iload_n 1, 1) := by decide +kernel
theorem dX4_drawThings_20 : decode cX4_drawThings 20 = .ok (.aload_n 0, 1) := by decide +kernel
theorem dX4_drawThings_21 : decode cX4_drawThings 21 = .ok (.bipush 8, 2) := by decide +kernel
theorem dX4_drawThings_23 : decode cX4_drawThings 23 = .ok (.invokevirtual 140, 3) := by decide +kernel
theorem dX4_drawThings_26 : decode cX4_drawThings 26 = .ok (.invokevirtual 146, 3) := by decide +kernel
theorem dX4_drawThings_29 : decode cX4_drawThings 29 = .ok (.iinc 1 1, 3) := by decide +kernel
theorem dX4_drawThings_32 : decode cX4_drawThings 32 = .ok (.goto (-30), 3) := by decide +kernel
theorem dX4_drawThings_35 : decode cX4_drawThings 35 = .ok (.return_, 1) := by decide +kernel
theorem dX5_init_0 : decode cX5_init 0 = .ok (.aload_n 0, 1) := by decide +kernel
theorem dX5_init_1 : decode cX5_init 1 = .ok (.invokespecial 3, 3) := by decide +kernel
theorem dX5_init_4 : decode cX5_init 4 = .ok (.aload_n 0, 1) := by decide +kernel
theorem dX5_init_5 : decode cX5_init 5 = .ok (.bipush 40, 2) := by decide +kernel
theorem dX5_init_7 : decode cX5_init 7 = .ok (.newarray .long, 2) := by decide +kernel
theorem dX5_init_9 : decode cX5_init 9 = .ok (.putfield 9, 3) := by decide +kernel
theorem dX5_init_12 : decode cX5_init 12 = .ok (.aload_n 0, 1) := by decide +kernel
theorem dX5_init_13 : decode cX5_init 13 = .ok (.iconst (-1), 1) := by decide +kernel
theorem dX5_init_14 : decode cX5_init 14 = .ok (.putfield 15, 3) := by decide +kernel
theorem dX5_init_17 : decode cX5_init 17 = .ok (.return_, 1) := by decide +kernel
theorem dX5_isNothing_0 : decode cX5_isNothing 0 = .ok (.aload_n 0, 1) := by decide +kernel
theorem dX5_isNothing_1 : decode cX5_isNothing 1 = .ok (.getfield 15, 3) := by decide +kernel
theorem dX5_isNothing_4 : decode cX5_isNothing 4 = .ok (.iconst (-1), 1) := by decide +kernel
theorem dX5_isNothing_5 : decode cX5_isNothing 5 = .ok (.if_icmp .ne 7, 3) := by decide +kernel
theorem dX5_isNothing_8 : decode cX5_isNothing 8 = .ok (.iconst 1, 1) := by decide +kernel
theorem dX5_isNothing_9 : decode cX5_isNothing 9 = .ok (.goto 4, 3) := by decide +kernel
theorem dX5_isNothing_12 : decode cX5_isNothing 12 = .ok (.iconst 0, 1) := by decide +kernel
theorem dX5_isNothing_13 : decode cX5_isNothing 13 = .ok (.ireturn, 1) := by decide +kernel
theorem dX5_isRow_0 : decode cX5_isRow 0 = .ok (.aload_n 0, 1) := by decide +kernel
theorem dX5_isRow_1 : decode cX5_isRow 1 = .ok (.getfield 15, 3) := by decide +kernel
theorem dX5_isRow_4 : decode cX5_isRow 4 = .ok (.ifCond .lt 15, 3) := by decide +kernel
theorem dX5_isRow_7 : decode cX5_isRow 7 = .ok (.aload_n 0, 1) := by decide +kernel
theorem dX5_isRow_8 : decode cX5_isRow 8 = .ok (.getfield 15, 3) := by decide +kernel
theorem dX5_isRow_11 : decode cX5_isRow 11 = .ok (.iconst 5, 1) := by decide +kernel
theorem dX5_isRow_12 : decode cX5_isRow 12 = .ok (.if_icmp .ge 7, 3) := by decide +kernel
theorem dX5_isRow_15 : decode cX5_isRow 15 = .ok (.iconst 1, 1) := by decide +kernel
theorem dX5_isRow_16 : decode cX5_isRow 16 = .ok (.goto 4, 3) := by decide +kernel
theorem dX5_isRow_19 : decode cX5_isRow 19 = .ok (.iconst 0, 1) := by decide +kernel
theorem dX5_isRow_20 : decode cX5_isRow 20 = .ok (.ireturn, 1) := by decide +kernel
theorem dX5_isLooker_0 : decode cX5_isLooker 0 = .ok (.aload_n 0, 1) := by decide +kernel
theorem dX5_isLooker_1 : decode cX5_isLooker 1 = .ok (.getfield 15, 3) := by decide +kernel
theorem dX5_isLooker_4 : decode cX5_isLooker 4 = .ok (.bipush 10, 2) := by decide +kernel
theorem dX5_isLooker_6 : decode cX5_isLooker 6 = .ok (.if_icmp .lt 7, 3) := by decide +kernel
theorem dX5_isLooker_9 : decode cX5_isLooker 9 = .ok (.iconst 1, 1) := by decide +kernel
theorem dX5_isLooker_10 : decode cX5_isLooker 10 = .ok (.goto 4, 3) := by decide +kernel
theorem dX5_isLooker_13 : decode cX5_isLooker 13 = .ok (.iconst 0, 1) := by decide +kernel
theorem dX5_isLooker_14 : decode cX5_isLooker 14 = .ok (.ireturn, 1) := by decide +kernel
theorem dX5_holdNothing_0 : decode cX5_holdNothing 0 = .ok (.aload_n 0, 1) := by decide +kernel
theorem dX5_holdNothing_1 : decode cX5_holdNothing 1 = .ok (.iconst (-1), 1) := by decide +kernel
theorem dX5_holdNothing_2 : decode cX5_holdNothing 2 = .ok (.putfield 15, 3) := by decide +kernel
theorem dX5_holdNothing_5 : decode cX5_holdNothing 5 = .ok (.aload_n 0, 1) := by decide +kernel
theorem dX5_holdNothing_6 : decode cX5_holdNothing 6 = .ok (.iconst 0, 1) := by decide +kernel
theorem dX5_holdNothing_7 : decode cX5_holdNothing 7 = .ok (.putfield 19, 3) := by decide +kernel
theorem dX5_holdNothing_10 : decode cX5_holdNothing 10 = .ok (.return_, 1) := by decide +kernel
theorem dX5_holdLooker_0 : decode cX5_holdLooker 0 = .ok (.aload_n 0, 1) := by decide +kernel
theorem dX5_holdLooker_1 : decode cX5_holdLooker 1 = .ok (.bipush 10, 2) := by decide +kernel
theorem dX5_holdLooker_3 : decode cX5_holdLooker 3 = .ok (.iload_n 1, 1) := by decide +kernel
theorem dX5_holdLooker_4 : decode cX5_holdLooker 4 = .ok (.iadd, 1) := by decide +kernel
theorem dX5_holdLooker_5 : decode cX5_holdLooker 5 = .ok (.putfield 15, 3) := by decide +kernel
theorem dX5_holdLooker_8 : decode cX5_holdLooker 8 = .ok (.aload_n 0, 1) := by decide +kernel
theorem dX5_holdLooker_9 : decode cX5_holdLooker 9 = .ok (.iconst 0, 1) := by decide +kernel
theorem dX5_holdLooker_10 : decode cX5_holdLooker 10 = .ok (.putfield 19, 3) := by decide +kernel
theorem dX5_holdLooker_13 : decode cX5_holdLooker 13 = .ok (.return_, 1) := by decide +kernel
theorem dX5_holdRow_0 : decode cX5_holdRow 0 = .ok (.aload_n 0, 1) := by decide +kernel
theorem dX5_holdRow_1 : decode cX5_holdRow 1 = .ok (.iload_n 1, 1) := by decide +kernel
theorem dX5_holdRow_2 : decode cX5_holdRow 2 = .ok (.putfield 15, 3) := by decide +kernel
theorem dX5_holdRow_5 : decode cX5_holdRow 5 = .ok (.aload_n 0, 1) := by decide +kernel
theorem dX5_holdRow_6 : decode cX5_holdRow 6 = .ok (.iload_n 2, 1) := by decide +kernel
theorem dX5_holdRow_7 : decode cX5_holdRow 7 = .ok (.putfield 19, 3) := by decide +kernel
theorem dX5_holdRow_10 : decode cX5_holdRow 10 = .ok (.aload_n 0, 1) := by decide +kernel
theorem dX5_holdRow_11 : decode cX5_holdRow 11 = .ok (.getfield 9, 3) := by decide +kernel
theorem dX5_holdRow_14 : decode cX5_holdRow 14 = .ok (.lconst 0, 1) := by decide +kernel
theorem dX5_holdRow_15 : decode cX5_holdRow 15 = .ok (.invokestatic 22, 3) := by decide +kernel
theorem dX5_holdRow_18 : decode cX5_holdRow 18 = .ok (.return_, 1) := by decide +kernel
theorem dX5_hasRun_0 : decode cX5_hasRun 0 = .ok (.iload_n 1, 1) := by decide +kernel
theorem dX5_hasRun_1 : decode cX5_hasRun 1 = .ok (.ifCond .lt 29, 3) := by decide +kernel
theorem dX5_hasRun_4 : decode cX5_hasRun 4 = .ok (.iload_n 2, 1) := by decide +kernel
theorem dX5_hasRun_5 : decode cX5_hasRun 5 = .ok (.ifCond .lt 25, 3) := by decide +kernel
theorem dX5_hasRun_8 : decode cX5_hasRun 8 = .ok (.iload_n 1, 1) := by decide +kernel
theorem dX5_hasRun_9 : decode cX5_hasRun 9 = .ok (.aload_n 0, 1) := by decide +kernel
theorem dX5_hasRun_10 : decode cX5_hasRun 10 = .ok (.getfield 19, 3) := by decide +kernel
theorem dX5_hasRun_13 : decode cX5_hasRun 13 = .ok (.if_icmp .gt 17, 3) := by decide +kernel
theorem dX5_hasRun_16 : decode cX5_hasRun 16 = .ok (.iload_n 2, 1) := by decide +kernel
theorem dX5_hasRun_17 : decode cX5_hasRun 17 = .ok (.aload_n 0, 1) := by decide +kernel
theorem dX5_hasRun_18 : decode cX5_hasRun 18 = .ok (.getfield 19, 3) := by decide +kernel
theorem dX5_hasRun_21 : decode cX5_hasRun 21 = .ok (.iload_n 1, 1) := by decide +kernel
theorem dX5_hasRun_22 : decode cX5_hasRun 22 = .ok (.isub, 1) := by decide +kernel
theorem dX5_hasRun_23 : decode cX5_hasRun 23 = .ok (.if_icmp .gt 7, 3) := by decide +kernel
theorem dX5_hasRun_26 : decode cX5_hasRun 26 = .ok (.iconst 1, 1) := by decide +kernel
theorem dX5_hasRun_27 : decode cX5_hasRun 27 = .ok (.goto 4, 3) := by decide +kernel
theorem dX5_hasRun_30 : decode cX5_hasRun 30 = .ok (.iconst 0, 1) := by decide +kernel
theorem dX5_hasRun_31 : decode cX5_hasRun 31 = .ok (.ireturn, 1) := by decide +kernel
theorem dX5_elementAt_0 : decode cX5_elementAt 0 = .ok (.aload_n 0, 1) := by decide +kernel
theorem dX5_elementAt_1 : decode cX5_elementAt 1 = .ok (.invokevirtual 28, 3) := by decide +kernel
theorem dX5_elementAt_4 : decode cX5_elementAt 4 = .ok (.ifCond .eq 24, 3) := by decide +kernel
theorem dX5_elementAt_7 : decode cX5_elementAt 7 = .ok (.iload_n 1, 1) := by decide +kernel
theorem dX5_elementAt_8 : decode cX5_elementAt 8 = .ok (.ifCond .lt 20, 3) := by decide +kernel
theorem dX5_elementAt_11 : decode cX5_elementAt 11 = .ok (.iload_n 1, 1) := by decide +kernel
theorem dX5_elementAt_12 : decode cX5_elementAt 12 = .ok (.aload_n 0, 1) := by decide +kernel
theorem dX5_elementAt_13 : decode cX5_elementAt 13 = .ok (.getfield 19, 3) := by decide +kernel
theorem dX5_elementAt_16 : decode cX5_elementAt 16 = .ok (.if_icmp .ge 12, 3) := by decide +kernel
theorem dX5_elementAt_19 : decode cX5_elementAt 19 = .ok (.aload_n 0, 1) := by decide +kernel
theorem dX5_elementAt_20 : decode cX5_elementAt 20 = .ok (.getfield 9, 3) := by decide +kernel
theorem dX5_elementAt_23 : decode cX5_elementAt 23 = .ok (.iload_n 1, 1) := by decide +kernel
theorem dX5_elementAt_24 : decode cX5_elementAt 24 = .ok (.laload, 1) := by decide +kernel
theorem dX5_elementAt_25 : decode cX5_elementAt 25 = .ok (.goto 4, 3) := by decide +kernel
theorem dX5_elementAt_28 : decode cX5_elementAt 28 = .ok (.lconst 0, 1) := by decide +kernel
theorem dX5_elementAt_29 : decode cX5_elementAt 29 = .ok (.lreturn, 1) := by decide +kernel
theorem dX5_put_0 : decode cX5_put 0 = .ok (.aload_n 0, 1) := by decide +kernel
theorem dX5_put_1 : decode cX5_put 1 = .ok (.getfield 9, 3) := by decide +kernel
theorem dX5_put_4 : decode cX5_put 4 = .ok (.iload_n 1, 1) := by decide +kernel
theorem dX5_put_5 : decode cX5_put 5 = .ok (.aload_n 0, 1) := by decide +kernel
theorem dX5_put_6 : decode cX5_put 6 = .ok (.lload_n 2, 1) := by decide +kernel
theorem dX5_put_7 : decode cX5_put 7 = .ok (.invokevirtual 32, 3) := by decide +kernel
theorem dX5_put_10 : decode cX5_put 10 = .ok (.lastore, 1) := by decide +kernel
theorem dX5_put_11 : decode cX5_put 11 = .ok (.return_, 1) := by decide +kernel
theorem dX5_lowestBits_0 : decode cX5_lowestBits 0 = .ok (.aload_n 0, 1) := by decide +kernel
theorem dX5_lowestBits_1 : decode cX5_lowestBits 1 = .ok (.getfield 15, 3) := by decide +kernel
theorem dX5_lowestBits_4 : decode cX5_lowestBits 4 = .ok (.tableswitch 62 0 4 #[36, 41, 46, 62, 50], 36) := by decide +kernel
theorem dX5_lowestBits_40 : decode cX5_lowestBits 40 = .ok (.lload_n 1, 1) := by decide +kernel
theorem dX5_lowestBits_41 : decode cX5_lowestBits 41 = .ok (.l2i, 1) := by decide +kernel
theorem dX5_lowestBits_42 : decode cX5_lowestBits 42 = .ok (.i2b, 1) := by decide +kernel
theorem dX5_lowestBits_43 : decode cX5_lowestBits 43 = .ok (.i2l, 1) := by decide +kernel
theorem dX5_lowestBits_44 : decode cX5_lowestBits 44 = .ok (.lreturn, 1) := by decide +kernel
theorem dX5_lowestBits_45 : decode cX5_lowestBits 45 = .ok (.lload_n 1, 1) := by decide +kernel
theorem dX5_lowestBits_46 : decode cX5_lowestBits 46 = .ok (.l2i, 1) := by decide +kernel
theorem dX5_lowestBits_47 : decode cX5_lowestBits 47 = .ok (.i2s, 1) := by decide +kernel
theorem dX5_lowestBits_48 : decode cX5_lowestBits 48 = .ok (.i2l, 1) := by decide +kernel
theorem dX5_lowestBits_49 : decode cX5_lowestBits 49 = .ok (.lreturn, 1) := by decide +kernel
theorem dX5_lowestBits_50 : decode cX5_lowestBits 50 = .ok (.lload_n 1, 1) := by decide +kernel
theorem dX5_lowestBits_51 : decode cX5_lowestBits 51 = .ok (.l2i, 1) := by decide +kernel
theorem dX5_lowestBits_52 : decode cX5_lowestBits 52 = .ok (.i2l, 1) := by decide +kernel
theorem dX5_lowestBits_53 : decode cX5_lowestBits 53 = .ok (.lreturn, 1) := by decide +kernel
theorem dX5_lowestBits_54 : decode cX5_lowestBits 54 = .ok (.lload_n 1, 1) := by decide +kernel
theorem dX5_lowestBits_55 : decode cX5_lowestBits 55 = .ok (.lconst 0, 1) := by decide +kernel
theorem dX5_lowestBits_56 : decode cX5_lowestBits 56 = .ok (.lcmp, 1) := by decide +kernel
theorem dX5_lowestBits_57 : decode cX5_lowestBits 57 = .ok (.ifCond .eq 7, 3) := by decide +kernel
theorem dX5_lowestBits_60 : decode cX5_lowestBits 60 = .ok (.lconst 1, 1) := by decide +kernel
theorem dX5_lowestBits_61 : decode cX5_lowestBits 61 = .ok (.goto 4, 3) := by decide +kernel
theorem dX5_lowestBits_64 : decode cX5_lowestBits 64 = .ok (.lconst 0, 1) := by decide +kernel
theorem dX5_lowestBits_65 : decode cX5_lowestBits 65 = .ok (.lreturn, 1) := by decide +kernel
theorem dX5_lowestBits_66 : decode cX5_lowestBits 66 = .ok (.lload_n 1, 1) := by decide +kernel
theorem dX5_lowestBits_67 : decode cX5_lowestBits 67 = .ok (.lreturn, 1) := by decide +kernel
theorem dX6_init_0 : decode cX6_init 0 = .ok (.aload_n 0, 1) := by decide +kernel
theorem dX6_init_1 : decode cX6_init 1 = .ok (.invokespecial 3, 3) := by decide +kernel
theorem dX6_init_4 : decode cX6_init 4 = .ok (.aload_n 0, 1) := by decide +kernel
theorem dX6_init_5 : decode cX6_init 5 = .ok (.bipush 8, 2) := by decide +kernel
theorem dX6_init_7 : decode cX6_init 7 = .ok (.newarray .int, 2) := by decide +kernel
theorem dX6_init_9 : decode cX6_init 9 = .ok (.putfield 9, 3) := by decide +kernel
theorem dX6_init_12 : decode cX6_init 12 = .ok (.aload_n 0, 1) := by decide +kernel
theorem dX6_init_13 : decode cX6_init 13 = .ok (.bipush 8, 2) := by decide +kernel
theorem dX6_init_15 : decode cX6_init 15 = .ok (.newarray .int, 2) := by decide +kernel
theorem dX6_init_17 : decode cX6_init 17 = .ok (.putfield 15, 3) := by decide +kernel
theorem dX6_init_20 : decode cX6_init 20 = .ok (.return_, 1) := by decide +kernel
theorem dX6_settle_0 : decode cX6_settle 0 = .ok (.aload_n 0, 1) := by decide +kernel
theorem dX6_settle_1 : decode cX6_settle 1 = .ok (.getfield 15, 3) := by decide +kernel
theorem dX6_settle_4 : decode cX6_settle 4 = .ok (.iconst (-1), 1) := by decide +kernel
theorem dX6_settle_5 : decode cX6_settle 5 = .ok (.invokestatic 18, 3) := by decide +kernel
theorem dX6_settle_8 : decode cX6_settle 8 = .ok (.aload_n 1, 1) := by decide +kernel
theorem dX6_settle_9 : decode cX6_settle 9 = .ok (.invokevirtual 24, 3) := by decide +kernel
theorem dX6_settle_12 : decode cX6_settle 12 = .ok (.istore_n 2, 1) := by decide +kernel
theorem dX6_settle_13 : decode cX6_settle 13 = .ok (.iconst 0, 1) := by decide +kernel
theorem dX6_settle_14 : decode cX6_settle 14 = .ok (.istore_n 3, 1) := by decide +kernel
theorem dX6_settle_15 : decode cX6_settle 15 = .ok (.iload_n 3, 1) := by decide +kernel
theorem dX6_settle_16 : decode cX6_settle 16 = .ok (.bipush 8, 2) := by decide +kernel
theorem dX6_settle_18 : decode cX6_settle 18 = .ok (.if_icmp .ge 24, 3) := by decide +kernel
theorem dX6_settle_21 : decode cX6_settle 21 = .ok (.iload_n 2, 1) := by decide +kernel
theorem dX6_settle_22 : decode cX6_settle 22 = .ok (.ifCond .eq 20, 3) := by decide +kernel
theorem dX6_settle_25 : decode cX6_settle 25 = .ok (.iload_n 2, 1) := by decide +kernel
theorem dX6_settle_26 : decode cX6_settle 26 = .ok (.aload_n 0, 1) := by decide +kernel
theorem dX6_settle_27 : decode cX6_settle 27 = .ok (.aload_n 1, 1) := by decide +kernel
theorem dX6_settle_28 : decode cX6_settle 28 = .ok (.iload_n 2, 1) := by decide +kernel
theorem dX6_settle_29 : decode cX6_settle 29 = .ok (.invokevirtual 30, 3) := by decide +kernel
theorem dX6_settle_32 : decode cX6_settle 32 = .ok (.iconst (-1), 1) := by decide +kernel
theorem dX6_settle_33 : decode cX6_settle 33 = .ok (.ixor, 1) := by decide +kernel
theorem dX6_settle_34 : decode cX6_settle 34 = .ok (.iand, 1) := by decide +kernel
theorem dX6_settle_35 : decode cX6_settle 35 = .ok (.istore_n 2, 1) := by decide +kernel
theorem dX6_settle_36 : decode cX6_settle 36 = .ok (.iinc 3 1, 3) := by decide +kernel
theorem dX6_settle_39 : decode cX6_settle 39 = .ok (.goto (-24), 3) := by decide +kernel
theorem dX6_settle_42 : decode cX6_settle 42 = .ok (.return_, 1) := by decide +kernel
theorem dX6_settleRings_0 : decode cX6_settleRings 0 = .ok (.iconst 0, 1) := by decide +kernel
theorem dX6_settleRings_1 : decode cX6_settleRings 1 = .ok (.istore_n 3, 1) := by decide +kernel
theorem dX6_settleRings_2 : decode cX6_settleRings 2 = .ok (.iload_n 3, 1) := by decide +kernel
theorem dX6_settleRings_3 : decode cX6_settleRings 3 = .ok (.aload_n 1, 1) := by decide +kernel
theorem dX6_settleRings_4 : decode cX6_settleRings 4 = .ok (.getfield 34, 3) := by decide +kernel
theorem dX6_settleRings_7 : decode cX6_settleRings 7 = .ok (.if_icmp .ge 22, 3) := by decide +kernel
theorem dX6_settleRings_10 : decode cX6_settleRings 10 = .ok (.aload_n 0, 1) := by decide +kernel
theorem dX6_settleRings_11 : decode cX6_settleRings 11 = .ok (.getfield 9, 3) := by decide +kernel
theorem dX6_settleRings_14 : decode cX6_settleRings 14 = .ok (.iload_n 3, 1) := by decide +kernel
theorem dX6_settleRings_15 : decode cX6_settleRings 15 = .ok (.aload_n 0, 1) := by decide +kernel
theorem dX6_settleRings_16 : decode cX6_settleRings 16 = .ok (.aload_n 1, 1) := by decide +kernel
theorem dX6_settleRings_17 : decode cX6_settleRings 17 = .ok (.iload_n 3, 1) := by decide +kernel
theorem dX6_settleRings_18 : decode cX6_settleRings 18 = .ok (.iload_n 2, 1) := by decide +kernel
theorem dX6_settleRings_19 : decode cX6_settleRings 19 = .ok (.invokevirtual 38, 3) := by decide +kernel
theorem dX6_settleRings_22 : decode cX6_settleRings 22 = .ok (.iastore, 1) := by decide +kernel
theorem dX6_settleRings_23 : decode cX6_settleRings 23 = .ok (.iinc 3 1, 3) := by decide +kernel
theorem dX6_settleRings_26 : decode cX6_settleRings 26 = .ok (.goto (-24), 3) := by decide +kernel
theorem dX6_settleRings_29 : decode cX6_settleRings 29 = .ok (.iconst 0, 1) := by decide +kernel
theorem dX6_settleRings_30 : decode cX6_settleRings 30 = .ok (.istore_n 3, 1) := by decide +kernel
theorem dX6_settleRings_31 : decode cX6_settleRings 31 = .ok (.iconst 0, 1) := by decide +kernel
theorem dX6_settleRings_32 : decode cX6_settleRings 32 = .ok (.istore 4, 2) := by decide +kernel
theorem dX6_settleRings_34 : decode cX6_settleRings 34 = .ok (.iload 4, 2) := by decide +kernel
theorem dX6_settleRings_36 : decode cX6_settleRings 36 = .ok (.aload_n 1, 1) := by decide +kernel
theorem dX6_settleRings_37 : decode cX6_settleRings 37 = .ok (.getfield 34, 3) := by decide +kernel
theorem dX6_settleRings_40 : decode cX6_settleRings 40 = .ok (.if_icmp .ge 56, 3) := by decide +kernel
theorem dX6_settleRings_43 : decode cX6_settleRings 43 = .ok (.iload_n 2, 1) := by decide +kernel
theorem dX6_settleRings_44 : decode cX6_settleRings 44 = .ok (.iload 4, 2) := by decide +kernel
theorem dX6_settleRings_46 : decode cX6_settleRings 46 = .ok (.ishr, 1) := by decide +kernel
theorem dX6_settleRings_47 : decode cX6_settleRings 47 = .ok (.iconst 1, 1) := by decide +kernel
theorem dX6_settleRings_48 : decode cX6_settleRings 48 = .ok (.iand, 1) := by decide +kernel
theorem dX6_settleRings_49 : decode cX6_settleRings 49 = .ok (.ifCond .eq 41, 3) := by decide +kernel
theorem dX6_settleRings_52 : decode cX6_settleRings 52 = .ok (.aload_n 0, 1) := by decide +kernel
theorem dX6_settleRings_53 : decode cX6_settleRings 53 = .ok (.iload 4, 2) := by decide +kernel
theorem dX6_settleRings_55 : decode cX6_settleRings 55 = .ok (.invokevirtual 42, 3) := by decide +kernel
theorem dX6_settleRings_58 : decode cX6_settleRings 58 = .ok (.ifCond .eq 32, 3) := by decide +kernel
theorem dX6_settleRings_61 : decode cX6_settleRings 61 = .ok (.aload_n 0, 1) := by decide +kernel
theorem dX6_settleRings_62 : decode cX6_settleRings 62 = .ok (.getfield 15, 3) := by decide +kernel
theorem dX6_settleRings_65 : decode cX6_settleRings 65 = .ok (.iload 4, 2) := by decide +kernel
theorem dX6_settleRings_67 : decode cX6_settleRings 67 = .ok (.aload_n 1, 1) := by decide +kernel
theorem dX6_settleRings_68 : decode cX6_settleRings 68 = .ok (.getfield 46, 3) := by decide +kernel
theorem dX6_settleRings_71 : decode cX6_settleRings 71 = .ok (.aload_n 0, 1) := by decide +kernel
theorem dX6_settleRings_72 : decode cX6_settleRings 72 = .ok (.getfield 9, 3) := by decide +kernel
theorem dX6_settleRings_75 : decode cX6_settleRings 75 = .ok (.iload 4, 2) := by decide +kernel
theorem dX6_settleRings_77 : decode cX6_settleRings 77 = .ok (.iaload, 1) := by decide +kernel
theorem dX6_settleRings_78 : decode cX6_settleRings 78 = .ok (.aaload, 1) := by decide +kernel
theorem dX6_settleRings_79 : decode cX6_settleRings 79 = .ok (.getfield 50, 3) := by decide +kernel
theorem dX6_settleRings_82 : decode cX6_settleRings 82 = .ok (.iastore, 1) := by decide +kernel
theorem dX6_settleRings_83 : decode cX6_settleRings 83 = .ok (.iload_n 3, 1) := by decide +kernel
theorem dX6_settleRings_84 : decode cX6_settleRings 84 = .ok (.iconst 1, 1) := by decide +kernel
theorem dX6_settleRings_85 : decode cX6_settleRings 85 = .ok (.iload 4, 2) := by decide +kernel
theorem dX6_settleRings_87 : decode cX6_settleRings 87 = .ok (.ishl, 1) := by decide +kernel
theorem dX6_settleRings_88 : decode cX6_settleRings 88 = .ok (.ior, 1) := by decide +kernel
theorem dX6_settleRings_89 : decode cX6_settleRings 89 = .ok (.istore_n 3, 1) := by decide +kernel
theorem dX6_settleRings_90 : decode cX6_settleRings 90 = .ok (.iinc 4 1, 3) := by decide +kernel
theorem dX6_settleRings_93 : decode cX6_settleRings 93 = .ok (.goto (-59), 3) := by decide +kernel
theorem dX6_settleRings_96 : decode cX6_settleRings 96 = .ok (.iload_n 3, 1) := by decide +kernel
theorem dX6_settleRings_97 : decode cX6_settleRings 97 = .ok (.ireturn, 1) := by decide +kernel
theorem dX6_wishOf_0 : decode cX6_wishOf 0 = .ok (.aload_n 1, 1) := by decide +kernel
theorem dX6_wishOf_1 : decode cX6_wishOf 1 = .ok (.getfield 46, 3) := by decide +kernel
theorem dX6_wishOf_4 : decode cX6_wishOf 4 = .ok (.iload_n 2, 1) := by decide +kernel
theorem dX6_wishOf_5 : decode cX6_wishOf 5 = .ok (.aaload, 1) := by decide +kernel
theorem dX6_wishOf_6 : decode cX6_wishOf 6 = .ok (.astore 4, 2) := by decide +kernel
theorem dX6_wishOf_8 : decode cX6_wishOf 8 = .ok (.aload_n 1, 1) := by decide +kernel
theorem dX6_wishOf_9 : decode cX6_wishOf 9 = .ok (.aload 4, 2) := by decide +kernel
theorem dX6_wishOf_11 : decode cX6_wishOf 11 = .ok (.getfield 55, 3) := by decide +kernel
theorem dX6_wishOf_14 : decode cX6_wishOf 14 = .ok (.iload_n 3, 1) := by decide +kernel
theorem dX6_wishOf_15 : decode cX6_wishOf 15 = .ok (.invokestatic 58, 3) := by decide +kernel
theorem dX6_wishOf_18 : decode cX6_wishOf 18 = .ok (.istore 5, 2) := by decide +kernel
theorem dX6_wishOf_20 : decode cX6_wishOf 20 = .ok (.iconst 0, 1) := by decide +kernel
theorem dX6_wishOf_21 : decode cX6_wishOf 21 = .ok (.istore 6, 2) := by decide +kernel
theorem dX6_wishOf_23 : decode cX6_wishOf 23 = .ok (.iload 6, 2) := by decide +kernel
theorem dX6_wishOf_25 : decode cX6_wishOf 25 = .ok (.bipush 8, 2) := by decide +kernel
theorem dX6_wishOf_27 : decode cX6_wishOf 27 = .ok (.if_icmp .ge 37, 3) := by decide +kernel
theorem dX6_wishOf_30 : decode cX6_wishOf 30 = .ok (.iload 5, 2) := by decide +kernel
theorem dX6_wishOf_32 : decode cX6_wishOf 32 = .ok (.iconst (-1), 1) := by decide +kernel
theorem dX6_wishOf_33 : decode cX6_wishOf 33 = .ok (.if_icmp .ne 31, 3) := by decide +kernel
theorem dX6_wishOf_36 : decode cX6_wishOf 36 = .ok (.aload 4, 2) := by decide +kernel
theorem dX6_wishOf_38 : decode cX6_wishOf 38 = .ok (.getfield 61, 3) := by decide +kernel
theorem dX6_wishOf_41 : decode cX6_wishOf 41 = .ok (.iload 6, 2) := by decide +kernel
theorem dX6_wishOf_43 : decode cX6_wishOf 43 = .ok (.ishr, 1) := by decide +kernel
theorem dX6_wishOf_44 : decode cX6_wishOf 44 = .ok (.iconst 1, 1) := by decide +kernel
theorem dX6_wishOf_45 : decode cX6_wishOf 45 = .ok (.iand, 1) := by decide +kernel
theorem dX6_wishOf_46 : decode cX6_wishOf 46 = .ok (.ifCond .eq 12, 3) := by decide +kernel
theorem dX6_wishOf_49 : decode cX6_wishOf 49 = .ok (.aload_n 1, 1) := by decide +kernel
theorem dX6_wishOf_50 : decode cX6_wishOf 50 = .ok (.iload 6, 2) := by decide +kernel
theorem dX6_wishOf_52 : decode cX6_wishOf 52 = .ok (.iload_n 3, 1) := by decide +kernel
theorem dX6_wishOf_53 : decode cX6_wishOf 53 = .ok (.invokestatic 58, 3) := by decide +kernel
theorem dX6_wishOf_56 : decode cX6_wishOf 56 = .ok (.istore 5, 2) := by decide +kernel
theorem dX6_wishOf_58 : decode cX6_wishOf 58 = .ok (.iinc 6 1, 3) := by decide +kernel
theorem dX6_wishOf_61 : decode cX6_wishOf 61 = .ok (.goto (-38), 3) := by decide +kernel
theorem dX6_wishOf_64 : decode cX6_wishOf 64 = .ok (.iload 5, 2) := by decide +kernel
theorem dX6_wishOf_66 : decode cX6_wishOf 66 = .ok (.iconst (-1), 1) := by decide +kernel
theorem dX6_wishOf_67 : decode cX6_wishOf 67 = .ok (.if_icmp .ne 7, 3) := by decide +kernel
theorem dX6_wishOf_70 : decode cX6_wishOf 70 = .ok (.iload_n 2, 1) := by decide +kernel
theorem dX6_wishOf_71 : decode cX6_wishOf 71 = .ok (.goto 5, 3) := by decide +kernel
theorem dX6_wishOf_74 : decode cX6_wishOf 74 = .ok (.iload 5, 2) := by decide +kernel
theorem dX6_wishOf_76 : decode cX6_wishOf 76 = .ok (.ireturn, 1) := by decide +kernel
theorem dX6_firstWhoBrings_0 : decode cX6_firstWhoBrings 0 = .ok (.iconst 0, 1) := by decide +kernel
theorem dX6_firstWhoBrings_1 : decode cX6_firstWhoBrings 1 = .ok (.istore_n 3, 1) := by decide +kernel
theorem dX6_firstWhoBrings_2 : decode cX6_firstWhoBrings 2 = .ok (.iload_n 3, 1) := by decide +kernel
theorem dX6_firstWhoBrings_3 : decode cX6_firstWhoBrings 3 = .ok (.aload_n 0, 1) := by decide +kernel
theorem dX6_firstWhoBrings_4 : decode cX6_firstWhoBrings 4 = .ok (.getfield 34, 3) := by decide +kernel
theorem dX6_firstWhoBrings_7 : decode cX6_firstWhoBrings 7 = .ok (.if_icmp .ge 32, 3) := by decide +kernel
theorem dX6_firstWhoBrings_10 : decode cX6_firstWhoBrings 10 = .ok (.iload_n 2, 1) := by decide +kernel
theorem dX6_firstWhoBrings_11 : decode cX6_firstWhoBrings 11 = .ok (.iload_n 3, 1) := by decide +kernel
theorem dX6_firstWhoBrings_12 : decode cX6_firstWhoBrings 12 = .ok (.ishr, 1) := by decide +kernel
theorem dX6_firstWhoBrings_13 : decode cX6_firstWhoBrings 13 = .ok (.iconst 1, 1) := by decide +kernel
theorem dX6_firstWhoBrings_14 : decode cX6_firstWhoBrings 14 = .ok (.iand, 1) := by decide +kernel
theorem dX6_firstWhoBrings_15 : decode cX6_firstWhoBrings 15 = .ok (.ifCond .eq 18, 3) := by decide +kernel
theorem dX6_firstWhoBrings_18 : decode cX6_firstWhoBrings 18 = .ok (.aload_n 0, 1) := by decide +kernel
theorem dX6_firstWhoBrings_19 : decode cX6_firstWhoBrings 19 = .ok (.getfield 46, 3) := by decide +kernel
theorem dX6_firstWhoBrings_22 : decode cX6_firstWhoBrings 22 = .ok (.iload_n 3, 1) := by decide +kernel
theorem dX6_firstWhoBrings_23 : decode cX6_firstWhoBrings 23 = .ok (.aaload, 1) := by decide +kernel
theorem dX6_firstWhoBrings_24 : decode cX6_firstWhoBrings 24 = .ok (.getfield 50, 3) := by decide +kernel
theorem dX6_firstWhoBrings_27 : decode cX6_firstWhoBrings 27 = .ok (.iload_n 1, 1) := by decide +kernel
theorem dX6_firstWhoBrings_28 : decode cX6_firstWhoBrings 28 = .ok (.if_icmp .ne 5, 3) := by decide +kernel
theorem dX6_firstWhoBrings_31 : decode cX6_firstWhoBrings 31 = .ok (.iload_n 3, 1) := by decide +kernel
theorem dX6_firstWhoBrings_32 : decode cX6_firstWhoBrings 32 = .ok (.ireturn, 1) := by decide +kernel
theorem dX6_firstWhoBrings_33 : decode cX6_firstWhoBrings 33 = .ok (.iinc 3 1, 3) := by decide +kernel
theorem dX6_firstWhoBrings_36 : decode cX6_firstWhoBrings 36 = .ok (.goto (-34), 3) := by decide +kernel
theorem dX6_firstWhoBrings_39 : decode cX6_firstWhoBrings 39 = .ok (.iconst (-1), 1) := by decide +kernel
theorem dX6_firstWhoBrings_40 : decode cX6_firstWhoBrings 40 = .ok (.ireturn, 1) := by decide +kernel
theorem dX6_isOnRing_0 : decode cX6_isOnRing 0 = .ok (.aload_n 0, 1) := by decide +kernel
theorem dX6_isOnRing_1 : decode cX6_isOnRing 1 = .ok (.getfield 9, 3) := by decide +kernel
theorem dX6_isOnRing_4 : decode cX6_isOnRing 4 = .ok (.iload_n 1, 1) := by decide +kernel
theorem dX6_isOnRing_5 : decode cX6_isOnRing 5 = .ok (.iaload, 1) := by decide +kernel
theorem dX6_isOnRing_6 : decode cX6_isOnRing 6 = .ok (.istore_n 2, 1) := by decide +kernel
theorem dX6_isOnRing_7 : decode cX6_isOnRing 7 = .ok (.iconst 0, 1) := by decide +kernel
theorem dX6_isOnRing_8 : decode cX6_isOnRing 8 = .ok (.istore_n 3, 1) := by decide +kernel
theorem dX6_isOnRing_9 : decode cX6_isOnRing 9 = .ok (.iload_n 3, 1) := by decide +kernel
theorem dX6_isOnRing_10 : decode cX6_isOnRing 10 = .ok (.bipush 8, 2) := by decide +kernel
theorem dX6_isOnRing_12 : decode cX6_isOnRing 12 = .ok (.if_icmp .ge 21, 3) := by decide +kernel
theorem dX6_isOnRing_15 : decode cX6_isOnRing 15 = .ok (.iload_n 2, 1) := by decide +kernel
theorem dX6_isOnRing_16 : decode cX6_isOnRing 16 = .ok (.iload_n 1, 1) := by decide +kernel
theorem dX6_isOnRing_17 : decode cX6_isOnRing 17 = .ok (.if_icmp .eq 16, 3) := by decide +kernel
theorem dX6_isOnRing_20 : decode cX6_isOnRing 20 = .ok (.aload_n 0, 1) := by decide +kernel
theorem dX6_isOnRing_21 : decode cX6_isOnRing 21 = .ok (.getfield 9, 3) := by decide +kernel
theorem dX6_isOnRing_24 : decode cX6_isOnRing 24 = .ok (.iload_n 2, 1) := by decide +kernel
theorem dX6_isOnRing_25 : decode cX6_isOnRing 25 = .ok (.iaload, 1) := by decide +kernel
theorem dX6_isOnRing_26 : decode cX6_isOnRing 26 = .ok (.istore_n 2, 1) := by decide +kernel
theorem dX6_isOnRing_27 : decode cX6_isOnRing 27 = .ok (.iinc 3 1, 3) := by decide +kernel
theorem dX6_isOnRing_30 : decode cX6_isOnRing 30 = .ok (.goto (-21), 3) := by decide +kernel
theorem dX6_isOnRing_33 : decode cX6_isOnRing 33 = .ok (.iload_n 2, 1) := by decide +kernel
theorem dX6_isOnRing_34 : decode cX6_isOnRing 34 = .ok (.iload_n 1, 1) := by decide +kernel
theorem dX6_isOnRing_35 : decode cX6_isOnRing 35 = .ok (.if_icmp .ne 7, 3) := by decide +kernel
theorem dX6_isOnRing_38 : decode cX6_isOnRing 38 = .ok (.iconst 1, 1) := by decide +kernel
theorem dX6_isOnRing_39 : decode cX6_isOnRing 39 = .ok (.goto 4, 3) := by decide +kernel
theorem dX6_isOnRing_42 : decode cX6_isOnRing 42 = .ok (.iconst 0, 1) := by decide +kernel
theorem dX6_isOnRing_43 : decode cX6_isOnRing 43 = .ok (.ireturn, 1) := by decide +kernel
theorem dX6_countOthers_0 : decode cX6_countOthers 0 = .ok (.iconst 0, 1) := by decide +kernel
theorem dX6_countOthers_1 : decode cX6_countOthers 1 = .ok (.istore_n 2, 1) := by decide +kernel
theorem dX6_countOthers_2 : decode cX6_countOthers 2 = .ok (.iconst 0, 1) := by decide +kernel
theorem dX6_countOthers_3 : decode cX6_countOthers 3 = .ok (.istore_n 3, 1) := by decide +kernel
theorem dX6_countOthers_4 : decode cX6_countOthers 4 = .ok (.iload_n 3, 1) := by decide +kernel
theorem dX6_countOthers_5 : decode cX6_countOthers 5 = .ok (.aload_n 1, 1) := by decide +kernel
theorem dX6_countOthers_6 : decode cX6_countOthers 6 = .ok (.getfield 34, 3) := by decide +kernel
theorem dX6_countOthers_9 : decode cX6_countOthers 9 = .ok (.if_icmp .ge 30, 3) := by decide +kernel
theorem dX6_countOthers_12 : decode cX6_countOthers 12 = .ok (.aload_n 0, 1) := by decide +kernel
theorem dX6_countOthers_13 : decode cX6_countOthers 13 = .ok (.getfield 15, 3) := by decide +kernel
theorem dX6_countOthers_16 : decode cX6_countOthers 16 = .ok (.iload_n 3, 1) := by decide +kernel
theorem dX6_countOthers_17 : decode cX6_countOthers 17 = .ok (.iaload, 1) := by decide +kernel
theorem dX6_countOthers_18 : decode cX6_countOthers 18 = .ok (.aload_n 1, 1) := by decide +kernel
theorem dX6_countOthers_19 : decode cX6_countOthers 19 = .ok (.getfield 46, 3) := by decide +kernel
theorem dX6_countOthers_22 : decode cX6_countOthers 22 = .ok (.iload_n 3, 1) := by decide +kernel
theorem dX6_countOthers_23 : decode cX6_countOthers 23 = .ok (.aaload, 1) := by decide +kernel
theorem dX6_countOthers_24 : decode cX6_countOthers 24 = .ok (.getfield 50, 3) := by decide +kernel
theorem dX6_countOthers_27 : decode cX6_countOthers 27 = .ok (.if_icmp .eq 6, 3) := by decide +kernel
theorem dX6_countOthers_30 : decode cX6_countOthers 30 = .ok (.iinc 2 1, 3) := by decide +kernel
theorem dX6_countOthers_33 : decode cX6_countOthers 33 = .ok (.iinc 3 1, 3) := by decide +kernel
theorem dX6_countOthers_36 : decode cX6_countOthers 36 = .ok (.goto (-32), 3) := by decide +kernel
theorem dX6_countOthers_39 : decode cX6_countOthers 39 = .ok (.iload_n 2, 1) := by decide +kernel
theorem dX6_countOthers_40 : decode cX6_countOthers 40 = .ok (.ireturn, 1) := by decide +kernel
theorem dX6_carryOut_0 : decode cX6_carryOut 0 = .ok (.iconst 0, 1) := by decide +kernel
theorem dX6_carryOut_1 : decode cX6_carryOut 1 = .ok (.istore_n 2, 1) := by decide +kernel
theorem dX6_carryOut_2 : decode cX6_carryOut 2 = .ok (.iload_n 2, 1) := by decide +kernel
theorem dX6_carryOut_3 : decode cX6_carryOut 3 = .ok (.aload_n 1, 1) := by decide +kernel
theorem dX6_carryOut_4 : decode cX6_carryOut 4 = .ok (.getfield 34, 3) := by decide +kernel
theorem dX6_carryOut_7 : decode cX6_carryOut 7 = .ok (.if_icmp .ge 54, 3) := by decide +kernel
theorem dX6_carryOut_10 : decode cX6_carryOut 10 = .ok (.aload_n 1, 1) := by decide +kernel
theorem dX6_carryOut_11 : decode cX6_carryOut 11 = .ok (.getfield 46, 3) := by decide +kernel
theorem dX6_carryOut_14 : decode cX6_carryOut 14 = .ok (.iload_n 2, 1) := by decide +kernel
theorem dX6_carryOut_15 : decode cX6_carryOut 15 = .ok (.aaload, 1) := by decide +kernel
theorem dX6_carryOut_16 : decode cX6_carryOut 16 = .ok (.astore_n 3, 1) := by decide +kernel
theorem dX6_carryOut_17 : decode cX6_carryOut 17 = .ok (.aload_n 0, 1) := by decide +kernel
theorem dX6_carryOut_18 : decode cX6_carryOut 18 = .ok (.getfield 15, 3) := by decide +kernel
theorem dX6_carryOut_21 : decode cX6_carryOut 21 = .ok (.iload_n 2, 1) := by decide +kernel
theorem dX6_carryOut_22 : decode cX6_carryOut 22 = .ok (.iaload, 1) := by decide +kernel
theorem dX6_carryOut_23 : decode cX6_carryOut 23 = .ok (.iconst (-1), 1) := by decide +kernel
theorem dX6_carryOut_24 : decode cX6_carryOut 24 = .ok (.if_icmp .eq 31, 3) := by decide +kernel
theorem dX6_carryOut_27 : decode cX6_carryOut 27 = .ok (.aload_n 3, 1) := by decide +kernel
theorem dX6_carryOut_28 : decode cX6_carryOut 28 = .ok (.aload_n 3, 1) := by decide +kernel
theorem dX6_carryOut_29 : decode cX6_carryOut 29 = .ok (.getfield 50, 3) := by decide +kernel
theorem dX6_carryOut_32 : decode cX6_carryOut 32 = .ok (.invokevirtual 64, 3) := by decide +kernel
theorem dX6_carryOut_35 : decode cX6_carryOut 35 = .ok (.aload_n 3, 1) := by decide +kernel
theorem dX6_carryOut_36 : decode cX6_carryOut 36 = .ok (.aload_n 0, 1) := by decide +kernel
theorem dX6_carryOut_37 : decode cX6_carryOut 37 = .ok (.getfield 15, 3) := by decide +kernel
theorem dX6_carryOut_40 : decode cX6_carryOut 40 = .ok (.iload_n 2, 1) := by decide +kernel
theorem dX6_carryOut_41 : decode cX6_carryOut 41 = .ok (.iaload, 1) := by decide +kernel
theorem dX6_carryOut_42 : decode cX6_carryOut 42 = .ok (.invokevirtual 68, 3) := by decide +kernel
theorem dX6_carryOut_45 : decode cX6_carryOut 45 = .ok (.aload_n 3, 1) := by decide +kernel
theorem dX6_carryOut_46 : decode cX6_carryOut 46 = .ok (.aload_n 0, 1) := by decide +kernel
theorem dX6_carryOut_47 : decode cX6_carryOut 47 = .ok (.getfield 15, 3) := by decide +kernel
theorem dX6_carryOut_50 : decode cX6_carryOut 50 = .ok (.iload_n 2, 1) := by decide +kernel
theorem dX6_carryOut_51 : decode cX6_carryOut 51 = .ok (.iaload, 1) := by decide +kernel
theorem dX6_carryOut_52 : decode cX6_carryOut 52 = .ok (.putfield 50, 3) := by decide +kernel
theorem dX6_carryOut_55 : decode cX6_carryOut 55 = .ok (.iinc 2 1, 3) := by decide +kernel
theorem dX6_carryOut_58 : decode cX6_carryOut 58 = .ok (.goto (-56), 3) := by decide +kernel
theorem dX6_carryOut_61 : decode cX6_carryOut 61 = .ok (.return_, 1) := by decide +kernel
theorem dX7_init_0 : decode cX7_init 0 = .ok (.aload_n 0, 1) := by decide +kernel
theorem dX7_init_1 : decode cX7_init 1 = .ok (.invokespecial 3, 3) := by decide +kernel
theorem dX7_init_4 : decode cX7_init 4 = .ok (.aload_n 0, 1) := by decide +kernel
theorem dX7_init_5 : decode cX7_init 5 = .ok (.sipush 250, 3) := by decide +kernel
theorem dX7_init_8 : decode cX7_init 8 = .ok (.newarray .int, 2) := by decide +kernel
theorem dX7_init_10 : decode cX7_init 10 = .ok (.putfield 9, 3) := by decide +kernel
theorem dX7_init_13 : decode cX7_init 13 = .ok (.aload_n 0, 1) := by decide +kernel
theorem dX7_init_14 : decode cX7_init 14 = .ok (.iconst (-1), 1) := by decide +kernel
theorem dX7_init_15 : decode cX7_init 15 = .ok (.putfield 15, 3) := by decide +kernel
theorem dX7_init_18 : decode cX7_init 18 = .ok (.return_, 1) := by decide +kernel
theorem dX7_add_0 : decode cX7_add 0 = .ok (.aload_n 0, 1) := by decide +kernel
theorem dX7_add_1 : decode cX7_add 1 = .ok (.getfield 19, 3) := by decide +kernel
theorem dX7_add_4 : decode cX7_add 4 = .ok (.sipush 250, 3) := by decide +kernel
theorem dX7_add_7 : decode cX7_add 7 = .ok (.if_icmp .lt 5, 3) := by decide +kernel
theorem dX7_add_10 : decode cX7_add 10 = .ok (.iconst 0, 1) := by decide +kernel
theorem dX7_add_11 : decode cX7_add 11 = .ok (.ireturn, 1) := by decide +kernel
theorem dX7_add_12 : decode cX7_add 12 = .ok (.aload_n 0, 1) := by decide +kernel
theorem dX7_add_13 : decode cX7_add 13 = .ok (.getfield 9, 3) := by decide +kernel
theorem dX7_add_16 : decode cX7_add 16 = .ok (.aload_n 0, 1) := by decide +kernel
theorem dX7_add_17 : decode cX7_add 17 = .ok (.getfield 19, 3) := by decide +kernel
theorem dX7_add_20 : decode cX7_add 20 = .ok (.iload_n 1, 1) := by decide +kernel
theorem dX7_add_21 : decode cX7_add 21 = .ok (.iastore, 1) := by decide +kernel
theorem dX7_add_22 : decode cX7_add 22 = .ok (.aload_n 0, 1) := by decide +kernel
theorem dX7_add_23 : decode cX7_add 23 = .ok (.dup, 1) := by decide +kernel
theorem dX7_add_24 : decode cX7_add 24 = .ok (.getfield 19, 3) := by decide +kernel
theorem dX7_add_27 : decode cX7_add 27 = .ok (.iconst 1, 1) := by decide +kernel
theorem dX7_add_28 : decode cX7_add 28 = .ok (.iadd, 1) := by decide +kernel
theorem dX7_add_29 : decode cX7_add 29 = .ok (.putfield 19, 3) := by decide +kernel
theorem dX7_add_32 : decode cX7_add 32 = .ok (.iconst 1, 1) := by decide +kernel
theorem dX7_add_33 : decode cX7_add 33 = .ok (.ireturn, 1) := by decide +kernel
theorem dX7_clear_0 : decode cX7_clear 0 = .ok (.aload_n 0, 1) := by decide +kernel
theorem dX7_clear_1 : decode cX7_clear 1 = .ok (.iconst 0, 1) := by decide +kernel
theorem dX7_clear_2 : decode cX7_clear 2 = .ok (.putfield 19, 3) := by decide +kernel
theorem dX7_clear_5 : decode cX7_clear 5 = .ok (.return_, 1) := by decide +kernel
theorem dX7_read_0 : decode cX7_read 0 = .ok (.aload_n 0, 1) := by decide +kernel
theorem dX7_read_1 : decode cX7_read 1 = .ok (.iconst 0, 1) := by decide +kernel
theorem dX7_read_2 : decode cX7_read 2 = .ok (.putfield 22, 3) := by decide +kernel
theorem dX7_read_5 : decode cX7_read 5 = .ok (.aload_n 0, 1) := by decide +kernel
theorem dX7_read_6 : decode cX7_read 6 = .ok (.iconst (-1), 1) := by decide +kernel
theorem dX7_read_7 : decode cX7_read 7 = .ok (.putfield 15, 3) := by decide +kernel
theorem dX7_read_10 : decode cX7_read 10 = .ok (.iconst 0, 1) := by decide +kernel
theorem dX7_read_11 : decode cX7_read 11 = .ok (.istore_n 2, 1) := by decide +kernel
theorem dX7_read_12 : decode cX7_read 12 = .ok (.iconst 1, 1) := by decide +kernel
theorem dX7_read_13 : decode cX7_read 13 = .ok (.istore_n 3, 1) := by decide +kernel
theorem dX7_read_14 : decode cX7_read 14 = .ok (.iload_n 3, 1) := by decide +kernel
theorem dX7_read_15 : decode cX7_read 15 = .ok (.ifCond .eq 42, 3) := by decide +kernel
theorem dX7_read_18 : decode cX7_read 18 = .ok (.iload_n 2, 1) := by decide +kernel
theorem dX7_read_19 : decode cX7_read 19 = .ok (.sipush 250, 3) := by decide +kernel
theorem dX7_read_22 : decode cX7_read 22 = .ok (.if_icmp .ge 35, 3) := by decide +kernel
theorem dX7_read_25 : decode cX7_read 25 = .ok (.aload_n 0, 1) := by decide +kernel
theorem dX7_read_26 : decode cX7_read 26 = .ok (.aload_n 1, 1) := by decide +kernel
theorem dX7_read_27 : decode cX7_read 27 = .ok (.invokevirtual 25, 3) := by decide +kernel
theorem dX7_read_30 : decode cX7_read 30 = .ok (.iinc 2 1, 3) := by decide +kernel
theorem dX7_read_33 : decode cX7_read 33 = .ok (.aload_n 0, 1) := by decide +kernel
theorem dX7_read_34 : decode cX7_read 34 = .ok (.getfield 15, 3) := by decide +kernel
theorem dX7_read_37 : decode cX7_read 37 = .ok (.iconst (-1), 1) := by decide +kernel
theorem dX7_read_38 : decode cX7_read 38 = .ok (.if_icmp .ne 14, 3) := by decide +kernel
theorem dX7_read_41 : decode cX7_read 41 = .ok (.aload_n 0, 1) := by decide +kernel
theorem dX7_read_42 : decode cX7_read 42 = .ok (.invokevirtual 29, 3) := by decide +kernel
theorem dX7_read_45 : decode cX7_read 45 = .ok (.ifCond .eq 7, 3) := by decide +kernel
theorem dX7_read_48 : decode cX7_read 48 = .ok (.iconst 1, 1) := by decide +kernel
theorem dX7_read_49 : decode cX7_read 49 = .ok (.goto 4, 3) := by decide +kernel
theorem dX7_read_52 : decode cX7_read 52 = .ok (.iconst 0, 1) := by decide +kernel
theorem dX7_read_53 : decode cX7_read 53 = .ok (.istore_n 3, 1) := by decide +kernel
theorem dX7_read_54 : decode cX7_read 54 = .ok (.goto (-40), 3) := by decide +kernel
theorem dX7_read_57 : decode cX7_read 57 = .ok (.iload_n 2, 1) := by decide +kernel
theorem dX7_read_58 : decode cX7_read 58 = .ok (.ireturn, 1) := by decide +kernel
theorem dX7_readSemicolon_0 : decode cX7_readSemicolon 0 = .ok (.aload_n 0, 1) := by decide +kernel
theorem dX7_readSemicolon_1 : decode cX7_readSemicolon 1 = .ok (.invokevirtual 33, 3) := by decide +kernel
theorem dX7_readSemicolon_4 : decode cX7_readSemicolon 4 = .ok (.aload_n 0, 1) := by decide +kernel
theorem dX7_readSemicolon_5 : decode cX7_readSemicolon 5 = .ok (.getfield 22, 3) := by decide +kernel
theorem dX7_readSemicolon_8 : decode cX7_readSemicolon 8 = .ok (.aload_n 0, 1) := by decide +kernel
theorem dX7_readSemicolon_9 : decode cX7_readSemicolon 9 = .ok (.getfield 19, 3) := by decide +kernel
theorem dX7_readSemicolon_12 : decode cX7_readSemicolon 12 = .ok (.if_icmp .lt 5, 3) := by decide +kernel
theorem dX7_readSemicolon_15 : decode cX7_readSemicolon 15 = .ok (.iconst 0, 1) := by decide +kernel
theorem dX7_readSemicolon_16 : decode cX7_readSemicolon 16 = .ok (.ireturn, 1) := by decide +kernel
theorem dX7_readSemicolon_17 : decode cX7_readSemicolon 17 = .ok (.aload_n 0, 1) := by decide +kernel
theorem dX7_readSemicolon_18 : decode cX7_readSemicolon 18 = .ok (.getfield 9, 3) := by decide +kernel
theorem dX7_readSemicolon_21 : decode cX7_readSemicolon 21 = .ok (.aload_n 0, 1) := by decide +kernel
theorem dX7_readSemicolon_22 : decode cX7_readSemicolon 22 = .ok (.getfield 22, 3) := by decide +kernel
theorem dX7_readSemicolon_25 : decode cX7_readSemicolon 25 = .ok (.iaload, 1) := by decide +kernel
theorem dX7_readSemicolon_26 : decode cX7_readSemicolon 26 = .ok (.bipush 59, 2) := by decide +kernel
theorem dX7_readSemicolon_28 : decode cX7_readSemicolon 28 = .ok (.if_icmp .eq 13, 3) := by decide +kernel
theorem dX7_readSemicolon_31 : decode cX7_readSemicolon 31 = .ok (.aload_n 0, 1) := by decide +kernel
theorem dX7_readSemicolon_32 : decode cX7_readSemicolon 32 = .ok (.aload_n 0, 1) := by decide +kernel
theorem dX7_readSemicolon_33 : decode cX7_readSemicolon 33 = .ok (.getfield 22, 3) := by decide +kernel
theorem dX7_readSemicolon_36 : decode cX7_readSemicolon 36 = .ok (.putfield 15, 3) := by decide +kernel
theorem dX7_readSemicolon_39 : decode cX7_readSemicolon 39 = .ok (.iconst 0, 1) := by decide +kernel
theorem dX7_readSemicolon_40 : decode cX7_readSemicolon 40 = .ok (.ireturn, 1) := by decide +kernel
theorem dX7_readSemicolon_41 : decode cX7_readSemicolon 41 = .ok (.aload_n 0, 1) := by decide +kernel
theorem dX7_readSemicolon_42 : decode cX7_readSemicolon 42 = .ok (.dup, 1) := by decide +kernel
theorem dX7_readSemicolon_43 : decode cX7_readSemicolon 43 = .ok (.getfield 22, 3) := by decide +kernel
theorem dX7_readSemicolon_46 : decode cX7_readSemicolon 46 = .ok (.iconst 1, 1) := by decide +kernel
theorem dX7_readSemicolon_47 : decode cX7_readSemicolon 47 = .ok (.iadd, 1) := by decide +kernel
theorem dX7_readSemicolon_48 : decode cX7_readSemicolon 48 = .ok (.putfield 22, 3) := by decide +kernel
theorem dX7_readSemicolon_51 : decode cX7_readSemicolon 51 = .ok (.iconst 1, 1) := by decide +kernel
theorem dX7_readSemicolon_52 : decode cX7_readSemicolon 52 = .ok (.ireturn, 1) := by decide +kernel
theorem dX7_readStatement_0 : decode cX7_readStatement 0 = .ok (.aload_n 0, 1) := by decide +kernel
theorem dX7_readStatement_1 : decode cX7_readStatement 1 = .ok (.invokevirtual 33, 3) := by decide +kernel
theorem dX7_readStatement_4 : decode cX7_readStatement 4 = .ok (.aload_n 0, 1) := by decide +kernel
theorem dX7_readStatement_5 : decode cX7_readStatement 5 = .ok (.getfield 22, 3) := by decide +kernel
theorem dX7_readStatement_8 : decode cX7_readStatement 8 = .ok (.istore_n 2, 1) := by decide +kernel
theorem dX7_readStatement_9 : decode cX7_readStatement 9 = .ok (.aload_n 0, 1) := by decide +kernel
theorem dX7_readStatement_10 : decode cX7_readStatement 10 = .ok (.invokevirtual 36, 3) := by decide +kernel
theorem dX7_readStatement_13 : decode cX7_readStatement 13 = .ok (.tableswitch 88 0 5 #[39, 47, 55, 64, 72, 80], 39) := by decide +kernel
theorem dX7_readStatement_52 : decode cX7_readStatement 52 = .ok (.aload_n 0, 1) := by decide +kernel
theorem dX7_readStatement_53 : decode cX7_readStatement 53 = .ok (.aload_n 1, 1) := by decide +kernel
theorem dX7_readStatement_54 : decode cX7_readStatement 54 = .ok (.invokevirtual 40, 3) := by decide +kernel
theorem dX7_readStatement_57 : decode cX7_readStatement 57 = .ok (.goto 49, 3) := by decide +kernel
theorem dX7_readStatement_60 : decode cX7_readStatement 60 = .ok (.aload_n 0, 1) := by decide +kernel
theorem dX7_readStatement_61 : decode cX7_readStatement 61 = .ok (.aload_n 1, 1) := by decide +kernel
theorem dX7_readStatement_62 : decode cX7_readStatement 62 = .ok (.invokevirtual 43, 3) := by decide +kernel
theorem dX7_readStatement_65 : decode cX7_readStatement 65 = .ok (.goto 41, 3) := by decide +kernel
theorem dX7_readStatement_68 : decode cX7_readStatement 68 = .ok (.aload_n 0, 1) := by decide +kernel
theorem dX7_readStatement_69 : decode cX7_readStatement 69 = .ok (.aload_n 1, 1) := by decide +kernel
theorem dX7_readStatement_70 : decode cX7_readStatement 70 = .ok (.iload_n 2, 1) := by decide +kernel
theorem dX7_readStatement_71 : decode cX7_readStatement 71 = .ok (.invokevirtual 46, 3) := by decide +kernel
theorem dX7_readStatement_74 : decode cX7_readStatement 74 = .ok (.goto 32, 3) := by decide +kernel
theorem dX7_readStatement_77 : decode cX7_readStatement 77 = .ok (.aload_n 0, 1) := by decide +kernel
theorem dX7_readStatement_78 : decode cX7_readStatement 78 = .ok (.aload_n 1, 1) := by decide +kernel
theorem dX7_readStatement_79 : decode cX7_readStatement 79 = .ok (.invokevirtual 50, 3) := by decide +kernel
theorem dX7_readStatement_82 : decode cX7_readStatement 82 = .ok (.goto 24, 3) := by decide +kernel
theorem dX7_readStatement_85 : decode cX7_readStatement 85 = .ok (.aload_n 0, 1) := by decide +kernel
theorem dX7_readStatement_86 : decode cX7_readStatement 86 = .ok (.aload_n 1, 1) := by decide +kernel
theorem dX7_readStatement_87 : decode cX7_readStatement 87 = .ok (.invokevirtual 53, 3) := by decide +kernel
theorem dX7_readStatement_90 : decode cX7_readStatement 90 = .ok (.goto 16, 3) := by decide +kernel
theorem dX7_readStatement_93 : decode cX7_readStatement 93 = .ok (.aload_n 0, 1) := by decide +kernel
theorem dX7_readStatement_94 : decode cX7_readStatement 94 = .ok (.aload_n 1, 1) := by decide +kernel
theorem dX7_readStatement_95 : decode cX7_readStatement 95 = .ok (.invokevirtual 56, 3) := by decide +kernel
theorem dX7_readStatement_98 : decode cX7_readStatement 98 = .ok (.goto 8, 3) := by decide +kernel
theorem dX7_readStatement_101 : decode cX7_readStatement 101 = .ok (.aload_n 0, 1) := by decide +kernel
theorem dX7_readStatement_102 : decode cX7_readStatement 102 = .ok (.iload_n 2, 1) := by decide +kernel
theorem dX7_readStatement_103 : decode cX7_readStatement 103 = .ok (.putfield 15, 3) := by decide +kernel
theorem dX7_readStatement_106 : decode cX7_readStatement 106 = .ok (.return_, 1) := by decide +kernel
theorem dX7_readPlace_0 : decode cX7_readPlace 0 = .ok (.aload_n 0, 1) := by decide +kernel
theorem dX7_readPlace_1 : decode cX7_readPlace 1 = .ok (.bipush 11, 2) := by decide +kernel
theorem dX7_readPlace_3 : decode cX7_readPlace 3 = .ok (.invokevirtual 59, 3) := by decide +kernel
theorem dX7_readPlace_6 : decode cX7_readPlace 6 = .ok (.istore_n 2, 1) := by decide +kernel
theorem dX7_readPlace_7 : decode cX7_readPlace 7 = .ok (.aload_n 0, 1) := by decide +kernel
theorem dX7_readPlace_8 : decode cX7_readPlace 8 = .ok (.bipush 7, 2) := by decide +kernel
theorem dX7_readPlace_10 : decode cX7_readPlace 10 = .ok (.invokevirtual 59, 3) := by decide +kernel
theorem dX7_readPlace_13 : decode cX7_readPlace 13 = .ok (.istore_n 3, 1) := by decide +kernel
theorem dX7_readPlace_14 : decode cX7_readPlace 14 = .ok (.aload_n 0, 1) := by decide +kernel
theorem dX7_readPlace_15 : decode cX7_readPlace 15 = .ok (.getfield 15, 3) := by decide +kernel
theorem dX7_readPlace_18 : decode cX7_readPlace 18 = .ok (.iconst (-1), 1) := by decide +kernel
theorem dX7_readPlace_19 : decode cX7_readPlace 19 = .ok (.if_icmp .ne 9, 3) := by decide +kernel
theorem dX7_readPlace_22 : decode cX7_readPlace 22 = .ok (.aload_n 1, 1) := by decide +kernel
theorem dX7_readPlace_23 : decode cX7_readPlace 23 = .ok (.iload_n 2, 1) := by decide +kernel
theorem dX7_readPlace_24 : decode cX7_readPlace 24 = .ok (.iload_n 3, 1) := by decide +kernel
theorem dX7_readPlace_25 : decode cX7_readPlace 25 = .ok (.invokevirtual 63, 3) := by decide +kernel
theorem dX7_readPlace_28 : decode cX7_readPlace 28 = .ok (.return_, 1) := by decide +kernel
theorem dX7_readClear_0 : decode cX7_readClear 0 = .ok (.aload_n 0, 1) := by decide +kernel
theorem dX7_readClear_1 : decode cX7_readClear 1 = .ok (.bipush 11, 2) := by decide +kernel
theorem dX7_readClear_3 : decode cX7_readClear 3 = .ok (.invokevirtual 59, 3) := by decide +kernel
theorem dX7_readClear_6 : decode cX7_readClear 6 = .ok (.istore_n 2, 1) := by decide +kernel
theorem dX7_readClear_7 : decode cX7_readClear 7 = .ok (.aload_n 0, 1) := by decide +kernel
theorem dX7_readClear_8 : decode cX7_readClear 8 = .ok (.getfield 15, 3) := by decide +kernel
theorem dX7_readClear_11 : decode cX7_readClear 11 = .ok (.iconst (-1), 1) := by decide +kernel
theorem dX7_readClear_12 : decode cX7_readClear 12 = .ok (.if_icmp .ne 9, 3) := by decide +kernel
theorem dX7_readClear_15 : decode cX7_readClear 15 = .ok (.aload_n 1, 1) := by decide +kernel
theorem dX7_readClear_16 : decode cX7_readClear 16 = .ok (.iload_n 2, 1) := by decide +kernel
theorem dX7_readClear_17 : decode cX7_readClear 17 = .ok (.iconst (-1), 1) := by decide +kernel
theorem dX7_readClear_18 : decode cX7_readClear 18 = .ok (.invokevirtual 63, 3) := by decide +kernel
theorem dX7_readClear_21 : decode cX7_readClear 21 = .ok (.return_, 1) := by decide +kernel
theorem dX7_readLooker_0 : decode cX7_readLooker 0 = .ok (.aload_n 1, 1) := by decide +kernel
theorem dX7_readLooker_1 : decode cX7_readLooker 1 = .ok (.invokevirtual 69, 3) := by decide +kernel
theorem dX7_readLooker_4 : decode cX7_readLooker 4 = .ok (.ifCond .eq 9, 3) := by decide +kernel
theorem dX7_readLooker_7 : decode cX7_readLooker 7 = .ok (.aload_n 0, 1) := by decide +kernel
theorem dX7_readLooker_8 : decode cX7_readLooker 8 = .ok (.iload_n 2, 1) := by decide +kernel
theorem dX7_readLooker_9 : decode cX7_readLooker 9 = .ok (.putfield 15, 3) := by decide +kernel
theorem dX7_readLooker_12 : decode cX7_readLooker 12 = .ok (.return_, 1) := by decide +kernel
theorem dX7_readLooker_13 : decode cX7_readLooker 13 = .ok (.aload_n 0, 1) := by decide +kernel
theorem dX7_readLooker_14 : decode cX7_readLooker 14 = .ok (.iconst 5, 1) := by decide +kernel
theorem dX7_readLooker_15 : decode cX7_readLooker 15 = .ok (.invokevirtual 59, 3) := by decide +kernel
theorem dX7_readLooker_18 : decode cX7_readLooker 18 = .ok (.istore_n 3, 1) := by decide +kernel
theorem dX7_readLooker_19 : decode cX7_readLooker 19 = .ok (.aload_n 0, 1) := by decide +kernel
theorem dX7_readLooker_20 : decode cX7_readLooker 20 = .ok (.bipush 7, 2) := by decide +kernel
theorem dX7_readLooker_22 : decode cX7_readLooker 22 = .ok (.invokevirtual 59, 3) := by decide +kernel
theorem dX7_readLooker_25 : decode cX7_readLooker 25 = .ok (.istore 4, 2) := by decide +kernel
theorem dX7_readLooker_27 : decode cX7_readLooker 27 = .ok (.aload_n 0, 1) := by decide +kernel
theorem dX7_readLooker_28 : decode cX7_readLooker 28 = .ok (.bipush 99, 2) := by decide +kernel
theorem dX7_readLooker_30 : decode cX7_readLooker 30 = .ok (.invokevirtual 59, 3) := by decide +kernel
theorem dX7_readLooker_33 : decode cX7_readLooker 33 = .ok (.istore 5, 2) := by decide +kernel
theorem dX7_readLooker_35 : decode cX7_readLooker 35 = .ok (.aload_n 0, 1) := by decide +kernel
theorem dX7_readLooker_36 : decode cX7_readLooker 36 = .ok (.getfield 15, 3) := by decide +kernel
theorem dX7_readLooker_39 : decode cX7_readLooker 39 = .ok (.iconst (-1), 1) := by decide +kernel
theorem dX7_readLooker_40 : decode cX7_readLooker 40 = .ok (.if_icmp .ne 13, 3) := by decide +kernel
theorem dX7_readLooker_43 : decode cX7_readLooker 43 = .ok (.aload_n 1, 1) := by decide +kernel
theorem dX7_readLooker_44 : decode cX7_readLooker 44 = .ok (.iload_n 3, 1) := by decide +kernel
theorem dX7_readLooker_45 : decode cX7_readLooker 45 = .ok (.iload 4, 2) := by decide +kernel
theorem dX7_readLooker_47 : decode cX7_readLooker 47 = .ok (.iload 5, 2) := by decide +kernel
theorem dX7_readLooker_49 : decode cX7_readLooker 49 = .ok (.invokevirtual 72, 3) := by decide +kernel
theorem dX7_readLooker_52 : decode cX7_readLooker 52 = .ok (.pop, 1) := by decide +kernel
theorem dX7_readLooker_53 : decode cX7_readLooker 53 = .ok (.return_, 1) := by decide +kernel
theorem dX7_readLikes_0 : decode cX7_readLikes 0 = .ok (.aload_n 0, 1) := by decide +kernel
theorem dX7_readLikes_1 : decode cX7_readLikes 1 = .ok (.aload_n 1, 1) := by decide +kernel
theorem dX7_readLikes_2 : decode cX7_readLikes 2 = .ok (.getfield 76, 3) := by decide +kernel
theorem dX7_readLikes_5 : decode cX7_readLikes 5 = .ok (.iconst 1, 1) := by decide +kernel
theorem dX7_readLikes_6 : decode cX7_readLikes 6 = .ok (.isub, 1) := by decide +kernel
theorem dX7_readLikes_7 : decode cX7_readLikes 7 = .ok (.invokevirtual 59, 3) := by decide +kernel
theorem dX7_readLikes_10 : decode cX7_readLikes 10 = .ok (.istore_n 2, 1) := by decide +kernel
theorem dX7_readLikes_11 : decode cX7_readLikes 11 = .ok (.aload_n 0, 1) := by decide +kernel
theorem dX7_readLikes_12 : decode cX7_readLikes 12 = .ok (.bipush 7, 2) := by decide +kernel
theorem dX7_readLikes_14 : decode cX7_readLikes 14 = .ok (.invokevirtual 59, 3) := by decide +kernel
theorem dX7_readLikes_17 : decode cX7_readLikes 17 = .ok (.istore_n 3, 1) := by decide +kernel
theorem dX7_readLikes_18 : decode cX7_readLikes 18 = .ok (.aload_n 0, 1) := by decide +kernel
theorem dX7_readLikes_19 : decode cX7_readLikes 19 = .ok (.getfield 15, 3) := by decide +kernel
theorem dX7_readLikes_22 : decode cX7_readLikes 22 = .ok (.iconst (-1), 1) := by decide +kernel
theorem dX7_readLikes_23 : decode cX7_readLikes 23 = .ok (.if_icmp .ne 14, 3) := by decide +kernel
theorem dX7_readLikes_26 : decode cX7_readLikes 26 = .ok (.aload_n 1, 1) := by decide +kernel
theorem dX7_readLikes_27 : decode cX7_readLikes 27 = .ok (.getfield 79, 3) := by decide +kernel
theorem dX7_readLikes_30 : decode cX7_readLikes 30 = .ok (.iload_n 2, 1) := by decide +kernel
theorem dX7_readLikes_31 : decode cX7_readLikes 31 = .ok (.aaload, 1) := by decide +kernel
theorem dX7_readLikes_32 : decode cX7_readLikes 32 = .ok (.iload_n 3, 1) := by decide +kernel
theorem dX7_readLikes_33 : decode cX7_readLikes 33 = .ok (.iconst 1, 1) := by decide +kernel
theorem dX7_readLikes_34 : decode cX7_readLikes 34 = .ok (.invokevirtual 83, 3) := by decide +kernel
theorem dX7_readLikes_37 : decode cX7_readLikes 37 = .ok (.return_, 1) := by decide +kernel
theorem dX7_readComes_0 : decode cX7_readComes 0 = .ok (.aload_n 0, 1) := by decide +kernel
theorem dX7_readComes_1 : decode cX7_readComes 1 = .ok (.aload_n 1, 1) := by decide +kernel
theorem dX7_readComes_2 : decode cX7_readComes 2 = .ok (.getfield 76, 3) := by decide +kernel
theorem dX7_readComes_5 : decode cX7_readComes 5 = .ok (.iconst 1, 1) := by decide +kernel
theorem dX7_readComes_6 : decode cX7_readComes 6 = .ok (.isub, 1) := by decide +kernel
theorem dX7_readComes_7 : decode cX7_readComes 7 = .ok (.invokevirtual 59, 3) := by decide +kernel
theorem dX7_readComes_10 : decode cX7_readComes 10 = .ok (.istore_n 2, 1) := by decide +kernel
theorem dX7_readComes_11 : decode cX7_readComes 11 = .ok (.aload_n 0, 1) := by decide +kernel
theorem dX7_readComes_12 : decode cX7_readComes 12 = .ok (.bipush 12, 2) := by decide +kernel
theorem dX7_readComes_14 : decode cX7_readComes 14 = .ok (.invokevirtual 59, 3) := by decide +kernel
theorem dX7_readComes_17 : decode cX7_readComes 17 = .ok (.istore_n 3, 1) := by decide +kernel
theorem dX7_readComes_18 : decode cX7_readComes 18 = .ok (.aload_n 0, 1) := by decide +kernel
theorem dX7_readComes_19 : decode cX7_readComes 19 = .ok (.getfield 15, 3) := by decide +kernel
theorem dX7_readComes_22 : decode cX7_readComes 22 = .ok (.iconst (-1), 1) := by decide +kernel
theorem dX7_readComes_23 : decode cX7_readComes 23 = .ok (.if_icmp .ne 13, 3) := by decide +kernel
theorem dX7_readComes_26 : decode cX7_readComes 26 = .ok (.aload_n 1, 1) := by decide +kernel
theorem dX7_readComes_27 : decode cX7_readComes 27 = .ok (.getfield 79, 3) := by decide +kernel
theorem dX7_readComes_30 : decode cX7_readComes 30 = .ok (.iload_n 2, 1) := by decide +kernel
theorem dX7_readComes_31 : decode cX7_readComes 31 = .ok (.aaload, 1) := by decide +kernel
theorem dX7_readComes_32 : decode cX7_readComes 32 = .ok (.iload_n 3, 1) := by decide +kernel
theorem dX7_readComes_33 : decode cX7_readComes 33 = .ok (.putfield 89, 3) := by decide +kernel
theorem dX7_readComes_36 : decode cX7_readComes 36 = .ok (.return_, 1) := by decide +kernel
theorem dX7_readShine_0 : decode cX7_readShine 0 = .ok (.aload_n 0, 1) := by decide +kernel
theorem dX7_readShine_1 : decode cX7_readShine 1 = .ok (.aload_n 1, 1) := by decide +kernel
theorem dX7_readShine_2 : decode cX7_readShine 2 = .ok (.getfield 76, 3) := by decide +kernel
theorem dX7_readShine_5 : decode cX7_readShine 5 = .ok (.iconst 1, 1) := by decide +kernel
theorem dX7_readShine_6 : decode cX7_readShine 6 = .ok (.isub, 1) := by decide +kernel
theorem dX7_readShine_7 : decode cX7_readShine 7 = .ok (.invokevirtual 59, 3) := by decide +kernel
theorem dX7_readShine_10 : decode cX7_readShine 10 = .ok (.istore_n 2, 1) := by decide +kernel
theorem dX7_readShine_11 : decode cX7_readShine 11 = .ok (.aload_n 0, 1) := by decide +kernel
theorem dX7_readShine_12 : decode cX7_readShine 12 = .ok (.bipush 7, 2) := by decide +kernel
theorem dX7_readShine_14 : decode cX7_readShine 14 = .ok (.invokevirtual 59, 3) := by decide +kernel
theorem dX7_readShine_17 : decode cX7_readShine 17 = .ok (.istore_n 3, 1) := by decide +kernel
theorem dX7_readShine_18 : decode cX7_readShine 18 = .ok (.aload_n 0, 1) := by decide +kernel
theorem dX7_readShine_19 : decode cX7_readShine 19 = .ok (.getfield 15, 3) := by decide +kernel
theorem dX7_readShine_22 : decode cX7_readShine 22 = .ok (.iconst (-1), 1) := by decide +kernel
theorem dX7_readShine_23 : decode cX7_readShine 23 = .ok (.if_icmp .ne 13, 3) := by decide +kernel
theorem dX7_readShine_26 : decode cX7_readShine 26 = .ok (.aload_n 1, 1) := by decide +kernel
theorem dX7_readShine_27 : decode cX7_readShine 27 = .ok (.getfield 79, 3) := by decide +kernel
theorem dX7_readShine_30 : decode cX7_readShine 30 = .ok (.iload_n 2, 1) := by decide +kernel
theorem dX7_readShine_31 : decode cX7_readShine 31 = .ok (.aaload, 1) := by decide +kernel
theorem dX7_readShine_32 : decode cX7_readShine 32 = .ok (.iload_n 3, 1) := by decide +kernel
theorem dX7_readShine_33 : decode cX7_readShine 33 = .ok (.putfield 92, 3) := by decide +kernel
theorem dX7_readShine_36 : decode cX7_readShine 36 = .ok (.return_, 1) := by decide +kernel
theorem dX7_readNumber_0 : decode cX7_readNumber 0 = .ok (.aload_n 0, 1) := by decide +kernel
theorem dX7_readNumber_1 : decode cX7_readNumber 1 = .ok (.getfield 15, 3) := by decide +kernel
theorem dX7_readNumber_4 : decode cX7_readNumber 4 = .ok (.iconst (-1), 1) := by decide +kernel
theorem dX7_readNumber_5 : decode cX7_readNumber 5 = .ok (.if_icmp .eq 5, 3) := by decide +kernel
theorem dX7_readNumber_8 : decode cX7_readNumber 8 = .ok (.iconst 0, 1) := by decide +kernel
theorem dX7_readNumber_9 : decode cX7_readNumber 9 = .ok (.ireturn, 1) := by decide +kernel
theorem dX7_readNumber_10 : decode cX7_readNumber 10 = .ok (.aload_n 0, 1) := by decide +kernel
theorem dX7_readNumber_11 : decode cX7_readNumber 11 = .ok (.invokevirtual 33, 3) := by decide +kernel
theorem dX7_readNumber_14 : decode cX7_readNumber 14 = .ok (.aload_n 0, 1) := by decide +kernel
theorem dX7_readNumber_15 : decode cX7_readNumber 15 = .ok (.getfield 22, 3) := by decide +kernel
theorem dX7_readNumber_18 : decode cX7_readNumber 18 = .ok (.istore_n 2, 1) := by decide +kernel
theorem dX7_readNumber_19 : decode cX7_readNumber 19 = .ok (.iconst 0, 1) := by decide +kernel
theorem dX7_readNumber_20 : decode cX7_readNumber 20 = .ok (.istore_n 3, 1) := by decide +kernel
theorem dX7_readNumber_21 : decode cX7_readNumber 21 = .ok (.aload_n 0, 1) := by decide +kernel
theorem dX7_readNumber_22 : decode cX7_readNumber 22 = .ok (.getfield 22, 3) := by decide +kernel
theorem dX7_readNumber_25 : decode cX7_readNumber 25 = .ok (.aload_n 0, 1) := by decide +kernel
theorem dX7_readNumber_26 : decode cX7_readNumber 26 = .ok (.getfield 19, 3) := by decide +kernel
theorem dX7_readNumber_29 : decode cX7_readNumber 29 = .ok (.if_icmp .ge 59, 3) := by decide +kernel
theorem dX7_readNumber_32 : decode cX7_readNumber 32 = .ok (.aload_n 0, 1) := by decide +kernel
theorem dX7_readNumber_33 : decode cX7_readNumber 33 = .ok (.getfield 9, 3) := by decide +kernel
theorem dX7_readNumber_36 : decode cX7_readNumber 36 = .ok (.aload_n 0, 1) := by decide +kernel
theorem dX7_readNumber_37 : decode cX7_readNumber 37 = .ok (.getfield 22, 3) := by decide +kernel
theorem dX7_readNumber_40 : decode cX7_readNumber 40 = .ok (.iaload, 1) := by decide +kernel
theorem dX7_readNumber_41 : decode cX7_readNumber 41 = .ok (.invokestatic 95, 3) := by decide +kernel
theorem dX7_readNumber_44 : decode cX7_readNumber 44 = .ok (.ifCond .eq 44, 3) := by decide +kernel
theorem dX7_readNumber_47 : decode cX7_readNumber 47 = .ok (.aload_n 0, 1) := by decide +kernel
theorem dX7_readNumber_48 : decode cX7_readNumber 48 = .ok (.getfield 22, 3) := by decide +kernel
theorem dX7_readNumber_51 : decode cX7_readNumber 51 = .ok (.iload_n 2, 1) := by decide +kernel
theorem dX7_readNumber_52 : decode cX7_readNumber 52 = .ok (.isub, 1) := by decide +kernel
theorem dX7_readNumber_53 : decode cX7_readNumber 53 = .ok (.iconst 2, 1) := by decide +kernel
theorem dX7_readNumber_54 : decode cX7_readNumber 54 = .ok (.if_icmp .ge 21, 3) := by decide +kernel
theorem dX7_readNumber_57 : decode cX7_readNumber 57 = .ok (.bipush 10, 2) := by decide +kernel
theorem dX7_readNumber_59 : decode cX7_readNumber 59 = .ok (.iload_n 3, 1) := by decide +kernel
theorem dX7_readNumber_60 : decode cX7_readNumber 60 = .ok (.imul, 1) := by decide +kernel
theorem dX7_readNumber_61 : decode cX7_readNumber 61 = .ok (.aload_n 0, 1) := by decide +kernel
theorem dX7_readNumber_62 : decode cX7_readNumber 62 = .ok (.getfield 9, 3) := by decide +kernel
theorem dX7_readNumber_65 : decode cX7_readNumber 65 = .ok (.aload_n 0, 1) := by decide +kernel
theorem dX7_readNumber_66 : decode cX7_readNumber 66 = .ok (.getfield 22, 3) := by decide +kernel
theorem dX7_readNumber_69 : decode cX7_readNumber 69 = .ok (.iaload, 1) := by decide +kernel
theorem dX7_readNumber_70 : decode cX7_readNumber 70 = .ok (.iadd, 1) := by decide +kernel
theorem dX7_readNumber_71 : decode cX7_readNumber 71 = .ok (.bipush 48, 2) := by decide +kernel
theorem dX7_readNumber_73 : decode cX7_readNumber 73 = .ok (.isub, 1) := by decide +kernel
theorem dX7_readNumber_74 : decode cX7_readNumber 74 = .ok (.istore_n 3, 1) := by decide +kernel
theorem dX7_readNumber_75 : decode cX7_readNumber 75 = .ok (.aload_n 0, 1) := by decide +kernel
theorem dX7_readNumber_76 : decode cX7_readNumber 76 = .ok (.dup, 1) := by decide +kernel
theorem dX7_readNumber_77 : decode cX7_readNumber 77 = .ok (.getfield 22, 3) := by decide +kernel
theorem dX7_readNumber_80 : decode cX7_readNumber 80 = .ok (.iconst 1, 1) := by decide +kernel
theorem dX7_readNumber_81 : decode cX7_readNumber 81 = .ok (.iadd, 1) := by decide +kernel
theorem dX7_readNumber_82 : decode cX7_readNumber 82 = .ok (.putfield 22, 3) := by decide +kernel
theorem dX7_readNumber_85 : decode cX7_readNumber 85 = .ok (.goto (-64), 3) := by decide +kernel
theorem dX7_readNumber_88 : decode cX7_readNumber 88 = .ok (.aload_n 0, 1) := by decide +kernel
theorem dX7_readNumber_89 : decode cX7_readNumber 89 = .ok (.getfield 22, 3) := by decide +kernel
theorem dX7_readNumber_92 : decode cX7_readNumber 92 = .ok (.iload_n 2, 1) := by decide +kernel
theorem dX7_readNumber_93 : decode cX7_readNumber 93 = .ok (.isub, 1) := by decide +kernel
theorem dX7_readNumber_94 : decode cX7_readNumber 94 = .ok (.istore 4, 2) := by decide +kernel
theorem dX7_readNumber_96 : decode cX7_readNumber 96 = .ok (.iload 4, 2) := by decide +kernel
theorem dX7_readNumber_98 : decode cX7_readNumber 98 = .ok (.ifCond .eq 14, 3) := by decide +kernel
theorem dX7_readNumber_101 : decode cX7_readNumber 101 = .ok (.iload 4, 2) := by decide +kernel
theorem dX7_readNumber_103 : decode cX7_readNumber 103 = .ok (.iconst 2, 1) := by decide +kernel
theorem dX7_readNumber_104 : decode cX7_readNumber 104 = .ok (.if_icmp .gt 8, 3) := by decide +kernel
theorem dX7_readNumber_107 : decode cX7_readNumber 107 = .ok (.iload_n 3, 1) := by decide +kernel
theorem dX7_readNumber_108 : decode cX7_readNumber 108 = .ok (.iload_n 1, 1) := by decide +kernel
theorem dX7_readNumber_109 : decode cX7_readNumber 109 = .ok (.if_icmp .le 10, 3) := by decide +kernel
theorem dX7_readNumber_112 : decode cX7_readNumber 112 = .ok (.aload_n 0, 1) := by decide +kernel
theorem dX7_readNumber_113 : decode cX7_readNumber 113 = .ok (.iload_n 2, 1) := by decide +kernel
theorem dX7_readNumber_114 : decode cX7_readNumber 114 = .ok (.putfield 15, 3) := by decide +kernel
theorem dX7_readNumber_117 : decode cX7_readNumber 117 = .ok (.iconst 0, 1) := by decide +kernel
theorem dX7_readNumber_118 : decode cX7_readNumber 118 = .ok (.ireturn, 1) := by decide +kernel
theorem dX7_readNumber_119 : decode cX7_readNumber 119 = .ok (.iload_n 3, 1) := by decide +kernel
theorem dX7_readNumber_120 : decode cX7_readNumber 120 = .ok (.ireturn, 1) := by decide +kernel
theorem dX7_readWord_0 : decode cX7_readWord 0 = .ok (.aload_n 0, 1) := by decide +kernel
theorem dX7_readWord_1 : decode cX7_readWord 1 = .ok (.getfield 22, 3) := by decide +kernel
theorem dX7_readWord_4 : decode cX7_readWord 4 = .ok (.istore_n 1, 1) := by decide +kernel
theorem dX7_readWord_5 : decode cX7_readWord 5 = .ok (.aload_n 0, 1) := by decide +kernel
theorem dX7_readWord_6 : decode cX7_readWord 6 = .ok (.getfield 22, 3) := by decide +kernel
theorem dX7_readWord_9 : decode cX7_readWord 9 = .ok (.aload_n 0, 1) := by decide +kernel
theorem dX7_readWord_10 : decode cX7_readWord 10 = .ok (.getfield 19, 3) := by decide +kernel
theorem dX7_readWord_13 : decode cX7_readWord 13 = .ok (.if_icmp .ge 44, 3) := by decide +kernel
theorem dX7_readWord_16 : decode cX7_readWord 16 = .ok (.aload_n 0, 1) := by decide +kernel
theorem dX7_readWord_17 : decode cX7_readWord 17 = .ok (.getfield 9, 3) := by decide +kernel
theorem dX7_readWord_20 : decode cX7_readWord 20 = .ok (.aload_n 0, 1) := by decide +kernel
theorem dX7_readWord_21 : decode cX7_readWord 21 = .ok (.getfield 22, 3) := by decide +kernel
theorem dX7_readWord_24 : decode cX7_readWord 24 = .ok (.iaload, 1) := by decide +kernel
theorem dX7_readWord_25 : decode cX7_readWord 25 = .ok (.bipush 97, 2) := by decide +kernel
theorem dX7_readWord_27 : decode cX7_readWord 27 = .ok (.if_icmp .lt 30, 3) := by decide +kernel
theorem dX7_readWord_30 : decode cX7_readWord 30 = .ok (.aload_n 0, 1) := by decide +kernel
theorem dX7_readWord_31 : decode cX7_readWord 31 = .ok (.getfield 9, 3) := by decide +kernel
theorem dX7_readWord_34 : decode cX7_readWord 34 = .ok (.aload_n 0, 1) := by decide +kernel
theorem dX7_readWord_35 : decode cX7_readWord 35 = .ok (.getfield 22, 3) := by decide +kernel
theorem dX7_readWord_38 : decode cX7_readWord 38 = .ok (.iaload, 1) := by decide +kernel
theorem dX7_readWord_39 : decode cX7_readWord 39 = .ok (.bipush 122, 2) := by decide +kernel
theorem dX7_readWord_41 : decode cX7_readWord 41 = .ok (.if_icmp .gt 16, 3) := by decide +kernel
theorem dX7_readWord_44 : decode cX7_readWord 44 = .ok (.aload_n 0, 1) := by decide +kernel
theorem dX7_readWord_45 : decode cX7_readWord 45 = .ok (.dup, 1) := by decide +kernel
theorem dX7_readWord_46 : decode cX7_readWord 46 = .ok (.getfield 22, 3) := by decide +kernel
theorem dX7_readWord_49 : decode cX7_readWord 49 = .ok (.iconst 1, 1) := by decide +kernel
theorem dX7_readWord_50 : decode cX7_readWord 50 = .ok (.iadd, 1) := by decide +kernel
theorem dX7_readWord_51 : decode cX7_readWord 51 = .ok (.putfield 22, 3) := by decide +kernel
theorem dX7_readWord_54 : decode cX7_readWord 54 = .ok (.goto (-49), 3) := by decide +kernel
theorem dX7_readWord_57 : decode cX7_readWord 57 = .ok (.iconst 0, 1) := by decide +kernel
theorem dX7_readWord_58 : decode cX7_readWord 58 = .ok (.istore_n 2, 1) := by decide +kernel
theorem dX7_readWord_59 : decode cX7_readWord 59 = .ok (.iload_n 2, 1) := by decide +kernel
theorem dX7_readWord_60 : decode cX7_readWord 60 = .ok (.bipush 6, 2) := by decide +kernel
theorem dX7_readWord_62 : decode cX7_readWord 62 = .ok (.if_icmp .ge 23, 3) := by decide +kernel
theorem dX7_readWord_65 : decode cX7_readWord 65 = .ok (.aload_n 0, 1) := by decide +kernel
theorem dX7_readWord_66 : decode cX7_readWord 66 = .ok (.iload_n 2, 1) := by decide +kernel
theorem dX7_readWord_67 : decode cX7_readWord 67 = .ok (.invokestatic 99, 3) := by decide +kernel
theorem dX7_readWord_70 : decode cX7_readWord 70 = .ok (.iload_n 1, 1) := by decide +kernel
theorem dX7_readWord_71 : decode cX7_readWord 71 = .ok (.invokevirtual 103, 3) := by decide +kernel
theorem dX7_readWord_74 : decode cX7_readWord 74 = .ok (.ifCond .eq 5, 3) := by decide +kernel
theorem dX7_readWord_77 : decode cX7_readWord 77 = .ok (.iload_n 2, 1) := by decide +kernel
theorem dX7_readWord_78 : decode cX7_readWord 78 = .ok (.ireturn, 1) := by decide +kernel
theorem dX7_readWord_79 : decode cX7_readWord 79 = .ok (.iinc 2 1, 3) := by decide +kernel
theorem dX7_readWord_82 : decode cX7_readWord 82 = .ok (.goto (-23), 3) := by decide +kernel
theorem dX7_readWord_85 : decode cX7_readWord 85 = .ok (.iconst (-1), 1) := by decide +kernel
theorem dX7_readWord_86 : decode cX7_readWord 86 = .ok (.ireturn, 1) := by decide +kernel
theorem dX7_isSpelled_0 : decode cX7_isSpelled 0 = .ok (.aload_n 1, 1) := by decide +kernel
theorem dX7_isSpelled_1 : decode cX7_isSpelled 1 = .ok (.invokevirtual 107, 3) := by decide +kernel
theorem dX7_isSpelled_4 : decode cX7_isSpelled 4 = .ok (.aload_n 0, 1) := by decide +kernel
theorem dX7_isSpelled_5 : decode cX7_isSpelled 5 = .ok (.getfield 22, 3) := by decide +kernel
theorem dX7_isSpelled_8 : decode cX7_isSpelled 8 = .ok (.iload_n 2, 1) := by decide +kernel
theorem dX7_isSpelled_9 : decode cX7_isSpelled 9 = .ok (.isub, 1) := by decide +kernel
theorem dX7_isSpelled_10 : decode cX7_isSpelled 10 = .ok (.if_icmp .eq 5, 3) := by decide +kernel
theorem dX7_isSpelled_13 : decode cX7_isSpelled 13 = .ok (.iconst 0, 1) := by decide +kernel
theorem dX7_isSpelled_14 : decode cX7_isSpelled 14 = .ok (.ireturn, 1) := by decide +kernel
theorem dX7_isSpelled_15 : decode cX7_isSpelled 15 = .ok (.iconst 0, 1) := by decide +kernel
theorem dX7_isSpelled_16 : decode cX7_isSpelled 16 = .ok (.istore_n 3, 1) := by decide +kernel
theorem dX7_isSpelled_17 : decode cX7_isSpelled 17 = .ok (.iload_n 3, 1) := by decide +kernel
theorem dX7_isSpelled_18 : decode cX7_isSpelled 18 = .ok (.aload_n 1, 1) := by decide +kernel
theorem dX7_isSpelled_19 : decode cX7_isSpelled 19 = .ok (.invokevirtual 107, 3) := by decide +kernel
theorem dX7_isSpelled_22 : decode cX7_isSpelled 22 = .ok (.if_icmp .ge 27, 3) := by decide +kernel
theorem dX7_isSpelled_25 : decode cX7_isSpelled 25 = .ok (.aload_n 0, 1) := by decide +kernel
theorem dX7_isSpelled_26 : decode cX7_isSpelled 26 = .ok (.getfield 9, 3) := by decide +kernel
theorem dX7_isSpelled_29 : decode cX7_isSpelled 29 = .ok (.iload_n 2, 1) := by decide +kernel
theorem dX7_isSpelled_30 : decode cX7_isSpelled 30 = .ok (.iload_n 3, 1) := by decide +kernel
theorem dX7_isSpelled_31 : decode cX7_isSpelled 31 = .ok (.iadd, 1) := by decide +kernel
theorem dX7_isSpelled_32 : decode cX7_isSpelled 32 = .ok (.iaload, 1) := by decide +kernel
theorem dX7_isSpelled_33 : decode cX7_isSpelled 33 = .ok (.aload_n 1, 1) := by decide +kernel
theorem dX7_isSpelled_34 : decode cX7_isSpelled 34 = .ok (.iload_n 3, 1) := by decide +kernel
theorem dX7_isSpelled_35 : decode cX7_isSpelled 35 = .ok (.invokevirtual 112, 3) := by decide +kernel
theorem dX7_isSpelled_38 : decode cX7_isSpelled 38 = .ok (.if_icmp .eq 5, 3) := by decide +kernel
theorem dX7_isSpelled_41 : decode cX7_isSpelled 41 = .ok (.iconst 0, 1) := by decide +kernel
theorem dX7_isSpelled_42 : decode cX7_isSpelled 42 = .ok (.ireturn, 1) := by decide +kernel
theorem dX7_isSpelled_43 : decode cX7_isSpelled 43 = .ok (.iinc 3 1, 3) := by decide +kernel
theorem dX7_isSpelled_46 : decode cX7_isSpelled 46 = .ok (.goto (-29), 3) := by decide +kernel
theorem dX7_isSpelled_49 : decode cX7_isSpelled 49 = .ok (.iconst 1, 1) := by decide +kernel
theorem dX7_isSpelled_50 : decode cX7_isSpelled 50 = .ok (.ireturn, 1) := by decide +kernel
theorem dX7_spellingOf_0 : decode cX7_spellingOf 0 = .ok (.iload_n 0, 1) := by decide +kernel
theorem dX7_spellingOf_1 : decode cX7_spellingOf 1 = .ok (.tableswitch 50 0 4 #[35, 38, 41, 44, 47], 35) := by decide +kernel
theorem dX7_spellingOf_36 : decode cX7_spellingOf 36 = .ok (.ldc 116, 2) := by decide +kernel
theorem dX7_spellingOf_38 : decode cX7_spellingOf 38 = .ok (.areturn, 1) := by decide +kernel
theorem dX7_spellingOf_39 : decode cX7_spellingOf 39 = .ok (.ldc 118, 2) := by decide +kernel
theorem dX7_spellingOf_41 : decode cX7_spellingOf 41 = .ok (.areturn, 1) := by decide +kernel
theorem dX7_spellingOf_42 : decode cX7_spellingOf 42 = .ok (.ldc 120, 2) := by decide +kernel
theorem dX7_spellingOf_44 : decode cX7_spellingOf 44 = .ok (.areturn, 1) := by decide +kernel
theorem dX7_spellingOf_45 : decode cX7_spellingOf 45 = .ok (.ldc 122, 2) := by decide +kernel
theorem dX7_spellingOf_47 : decode cX7_spellingOf 47 = .ok (.areturn, 1) := by decide +kernel
theorem dX7_spellingOf_48 : decode cX7_spellingOf 48 = .ok (.ldc 124, 2) := by decide +kernel
theorem dX7_spellingOf_50 : decode cX7_spellingOf 50 = .ok (.areturn, 1) := by decide +kernel
theorem dX7_spellingOf_51 : decode cX7_spellingOf 51 = .ok (.ldc 125, 2) := by decide +kernel
theorem dX7_spellingOf_53 : decode cX7_spellingOf 53 = .ok (.areturn, 1) := by decide +kernel
theorem dX7_skipBlanks_0 : decode cX7_skipBlanks 0 = .ok (.aload_n 0, 1) := by decide +kernel
theorem dX7_skipBlanks_1 : decode cX7_skipBlanks 1 = .ok (.getfield 22, 3) := by decide +kernel
theorem dX7_skipBlanks_4 : decode cX7_skipBlanks 4 = .ok (.aload_n 0, 1) := by decide +kernel
theorem dX7_skipBlanks_5 : decode cX7_skipBlanks 5 = .ok (.getfield 19, 3) := by decide +kernel
theorem dX7_skipBlanks_8 : decode cX7_skipBlanks 8 = .ok (.if_icmp .ge 30, 3) := by decide +kernel
theorem dX7_skipBlanks_11 : decode cX7_skipBlanks 11 = .ok (.aload_n 0, 1) := by decide +kernel
theorem dX7_skipBlanks_12 : decode cX7_skipBlanks 12 = .ok (.getfield 9, 3) := by decide +kernel
theorem dX7_skipBlanks_15 : decode cX7_skipBlanks 15 = .ok (.aload_n 0, 1) := by decide +kernel
theorem dX7_skipBlanks_16 : decode cX7_skipBlanks 16 = .ok (.getfield 22, 3) := by decide +kernel
theorem dX7_skipBlanks_19 : decode cX7_skipBlanks 19 = .ok (.iaload, 1) := by decide +kernel
theorem dX7_skipBlanks_20 : decode cX7_skipBlanks 20 = .ok (.bipush 32, 2) := by decide +kernel
theorem dX7_skipBlanks_22 : decode cX7_skipBlanks 22 = .ok (.if_icmp .ne 16, 3) := by decide +kernel
theorem dX7_skipBlanks_25 : decode cX7_skipBlanks 25 = .ok (.aload_n 0, 1) := by decide +kernel
theorem dX7_skipBlanks_26 : decode cX7_skipBlanks 26 = .ok (.dup, 1) := by decide +kernel
theorem dX7_skipBlanks_27 : decode cX7_skipBlanks 27 = .ok (.getfield 22, 3) := by decide +kernel
theorem dX7_skipBlanks_30 : decode cX7_skipBlanks 30 = .ok (.iconst 1, 1) := by decide +kernel
theorem dX7_skipBlanks_31 : decode cX7_skipBlanks 31 = .ok (.iadd, 1) := by decide +kernel
theorem dX7_skipBlanks_32 : decode cX7_skipBlanks 32 = .ok (.putfield 22, 3) := by decide +kernel
theorem dX7_skipBlanks_35 : decode cX7_skipBlanks 35 = .ok (.goto (-35), 3) := by decide +kernel
theorem dX7_skipBlanks_38 : decode cX7_skipBlanks 38 = .ok (.return_, 1) := by decide +kernel
theorem dX7_isDigit_0 : decode cX7_isDigit 0 = .ok (.iload_n 0, 1) := by decide +kernel
theorem dX7_isDigit_1 : decode cX7_isDigit 1 = .ok (.bipush 48, 2) := by decide +kernel
theorem dX7_isDigit_3 : decode cX7_isDigit 3 = .ok (.if_icmp .lt 13, 3) := by decide +kernel
theorem dX7_isDigit_6 : decode cX7_isDigit 6 = .ok (.iload_n 0, 1) := by decide +kernel
theorem dX7_isDigit_7 : decode cX7_isDigit 7 = .ok (.bipush 57, 2) := by decide +kernel
theorem dX7_isDigit_9 : decode cX7_isDigit 9 = .ok (.if_icmp .gt 7, 3) := by decide +kernel
theorem dX7_isDigit_12 : decode cX7_isDigit 12 = .ok (.iconst 1, 1) := by decide +kernel
theorem dX7_isDigit_13 : decode cX7_isDigit 13 = .ok (.goto 4, 3) := by decide +kernel
theorem dX7_isDigit_16 : decode cX7_isDigit 16 = .ok (.iconst 0, 1) := by decide +kernel
theorem dX7_isDigit_17 : decode cX7_isDigit 17 = .ok (.ireturn, 1) := by decide +kernel
theorem dX8_init_0 : decode cX8_init 0 = .ok (.aload_n 0, 1) := by decide +kernel
theorem dX8_init_1 : decode cX8_init 1 = .ok (.invokespecial 3, 3) := by decide +kernel
theorem dX8_init_4 : decode cX8_init 4 = .ok (.aload_n 0, 1) := by decide +kernel
theorem dX8_init_5 : decode cX8_init 5 = .ok (.new 9, 3) := by decide +kernel
theorem dX8_init_8 : decode cX8_init 8 = .ok (.dup, 1) := by decide +kernel
theorem dX8_init_9 : decode cX8_init 9 = .ok (.invokespecial 11, 3) := by decide +kernel
theorem dX8_init_12 : decode cX8_init 12 = .ok (.putfield 12, 3) := by decide +kernel
theorem dX8_init_15 : decode cX8_init 15 = .ok (.aload_n 0, 1) := by decide +kernel
theorem dX8_init_16 : decode cX8_init 16 = .ok (.new 18, 3) := by decide +kernel
theorem dX8_init_19 : decode cX8_init 19 = .ok (.dup, 1) := by decide +kernel
theorem dX8_init_20 : decode cX8_init 20 = .ok (.invokespecial 20, 3) := by decide +kernel
theorem dX8_init_23 : decode cX8_init 23 = .ok (.putfield 21, 3) := by decide +kernel
theorem dX8_init_26 : decode cX8_init 26 = .ok (.aload_n 0, 1) := by decide +kernel
theorem dX8_init_27 : decode cX8_init 27 = .ok (.iconst 3, 1) := by decide +kernel
theorem dX8_init_28 : decode cX8_init 28 = .ok (.newarray .int, 2) := by decide +kernel
theorem dX8_init_30 : decode cX8_init 30 = .ok (.putfield 25, 3) := by decide +kernel
theorem dX8_init_33 : decode cX8_init 33 = .ok (.aload_n 0, 1) := by decide +kernel
theorem dX8_init_34 : decode cX8_init 34 = .ok (.iconst 3, 1) := by decide +kernel
theorem dX8_init_35 : decode cX8_init 35 = .ok (.newarray .int, 2) := by decide +kernel
theorem dX8_init_37 : decode cX8_init 37 = .ok (.putfield 29, 3) := by decide +kernel
theorem dX8_init_40 : decode cX8_init 40 = .ok (.return_, 1) := by decide +kernel
theorem dX8_findSetOut_0 : decode cX8_findSetOut 0 = .ok (.aload_n 0, 1) := by decide +kernel
theorem dX8_findSetOut_1 : decode cX8_findSetOut 1 = .ok (.getfield 12, 3) := by decide +kernel
theorem dX8_findSetOut_4 : decode cX8_findSetOut 4 = .ok (.aload_n 1, 1) := by decide +kernel
theorem dX8_findSetOut_5 : decode cX8_findSetOut 5 = .ok (.invokevirtual 32, 3) := by decide +kernel
theorem dX8_findSetOut_8 : decode cX8_findSetOut 8 = .ok (.aload_n 0, 1) := by decide +kernel
theorem dX8_findSetOut_9 : decode cX8_findSetOut 9 = .ok (.invokevirtual 36, 3) := by decide +kernel
theorem dX8_findSetOut_12 : decode cX8_findSetOut 12 = .ok (.istore_n 3, 1) := by decide +kernel
theorem dX8_findSetOut_13 : decode cX8_findSetOut 13 = .ok (.iconst 0, 1) := by decide +kernel
theorem dX8_findSetOut_14 : decode cX8_findSetOut 14 = .ok (.istore 4, 2) := by decide +kernel
theorem dX8_findSetOut_16 : decode cX8_findSetOut 16 = .ok (.iconst 0, 1) := by decide +kernel
theorem dX8_findSetOut_17 : decode cX8_findSetOut 17 = .ok (.istore 5, 2) := by decide +kernel
theorem dX8_findSetOut_19 : decode cX8_findSetOut 19 = .ok (.iload 5, 2) := by decide +kernel
theorem dX8_findSetOut_21 : decode cX8_findSetOut 21 = .ok (.aload_n 0, 1) := by decide +kernel
theorem dX8_findSetOut_22 : decode cX8_findSetOut 22 = .ok (.getfield 12, 3) := by decide +kernel
theorem dX8_findSetOut_25 : decode cX8_findSetOut 25 = .ok (.getfield 40, 3) := by decide +kernel
theorem dX8_findSetOut_28 : decode cX8_findSetOut 28 = .ok (.if_icmp .ge 38, 3) := by decide +kernel
theorem dX8_findSetOut_31 : decode cX8_findSetOut 31 = .ok (.iload_n 2, 1) := by decide +kernel
theorem dX8_findSetOut_32 : decode cX8_findSetOut 32 = .ok (.iload 5, 2) := by decide +kernel
theorem dX8_findSetOut_34 : decode cX8_findSetOut 34 = .ok (.ishr, 1) := by decide +kernel
theorem dX8_findSetOut_35 : decode cX8_findSetOut 35 = .ok (.iconst 1, 1) := by decide +kernel
theorem dX8_findSetOut_36 : decode cX8_findSetOut 36 = .ok (.iand, 1) := by decide +kernel
theorem dX8_findSetOut_37 : decode cX8_findSetOut 37 = .ok (.ifCond .eq 23, 3) := by decide +kernel
theorem dX8_findSetOut_40 : decode cX8_findSetOut 40 = .ok (.iload 4, 2) := by decide +kernel
theorem dX8_findSetOut_42 : decode cX8_findSetOut 42 = .ok (.iconst 1, 1) := by decide +kernel
theorem dX8_findSetOut_43 : decode cX8_findSetOut 43 = .ok (.aload_n 0, 1) := by decide +kernel
theorem dX8_findSetOut_44 : decode cX8_findSetOut 44 = .ok (.getfield 12, 3) := by decide +kernel
theorem dX8_findSetOut_47 : decode cX8_findSetOut 47 = .ok (.getfield 44, 3) := by decide +kernel
theorem dX8_findSetOut_50 : decode cX8_findSetOut 50 = .ok (.iload 5, 2) := by decide +kernel
theorem dX8_findSetOut_52 : decode cX8_findSetOut 52 = .ok (.aaload, 1) := by decide +kernel
theorem dX8_findSetOut_53 : decode cX8_findSetOut 53 = .ok (.getfield 48, 3) := by decide +kernel
theorem dX8_findSetOut_56 : decode cX8_findSetOut 56 = .ok (.ishl, 1) := by decide +kernel
theorem dX8_findSetOut_57 : decode cX8_findSetOut 57 = .ok (.ior, 1) := by decide +kernel
theorem dX8_findSetOut_58 : decode cX8_findSetOut 58 = .ok (.istore 4, 2) := by decide +kernel
theorem dX8_findSetOut_60 : decode cX8_findSetOut 60 = .ok (.iinc 5 1, 3) := by decide +kernel
theorem dX8_findSetOut_63 : decode cX8_findSetOut 63 = .ok (.goto (-44), 3) := by decide +kernel
theorem dX8_findSetOut_66 : decode cX8_findSetOut 66 = .ok (.iconst 0, 1) := by decide +kernel
theorem dX8_findSetOut_67 : decode cX8_findSetOut 67 = .ok (.istore 5, 2) := by decide +kernel
theorem dX8_findSetOut_69 : decode cX8_findSetOut 69 = .ok (.iload 5, 2) := by decide +kernel
theorem dX8_findSetOut_71 : decode cX8_findSetOut 71 = .ok (.iload_n 3, 1) := by decide +kernel
theorem dX8_findSetOut_72 : decode cX8_findSetOut 72 = .ok (.if_icmp .gt 24, 3) := by decide +kernel
theorem dX8_findSetOut_75 : decode cX8_findSetOut 75 = .ok (.aload_n 0, 1) := by decide +kernel
theorem dX8_findSetOut_76 : decode cX8_findSetOut 76 = .ok (.iload_n 2, 1) := by decide +kernel
theorem dX8_findSetOut_77 : decode cX8_findSetOut 77 = .ok (.iload 4, 2) := by decide +kernel
theorem dX8_findSetOut_79 : decode cX8_findSetOut 79 = .ok (.iload 5, 2) := by decide +kernel
theorem dX8_findSetOut_81 : decode cX8_findSetOut 81 = .ok (.invokevirtual 53, 3) := by decide +kernel
theorem dX8_findSetOut_84 : decode cX8_findSetOut 84 = .ok (.ifCond .eq 6, 3) := by decide +kernel
theorem dX8_findSetOut_87 : decode cX8_findSetOut 87 = .ok (.iload 5, 2) := by decide +kernel
theorem dX8_findSetOut_89 : decode cX8_findSetOut 89 = .ok (.ireturn, 1) := by decide +kernel
theorem dX8_findSetOut_90 : decode cX8_findSetOut 90 = .ok (.iinc 5 1, 3) := by decide +kernel
theorem dX8_findSetOut_93 : decode cX8_findSetOut 93 = .ok (.goto (-24), 3) := by decide +kernel
theorem dX8_findSetOut_96 : decode cX8_findSetOut 96 = .ok (.iconst (-1), 1) := by decide +kernel
theorem dX8_findSetOut_97 : decode cX8_findSetOut 97 = .ok (.ireturn, 1) := by decide +kernel
theorem dX8_findEmptyPlaces_0 : decode cX8_findEmptyPlaces 0 = .ok (.iconst 0, 1) := by decide +kernel
theorem dX8_findEmptyPlaces_1 : decode cX8_findEmptyPlaces 1 = .ok (.istore_n 1, 1) := by decide +kernel
theorem dX8_findEmptyPlaces_2 : decode cX8_findEmptyPlaces 2 = .ok (.iconst 0, 1) := by decide +kernel
theorem dX8_findEmptyPlaces_3 : decode cX8_findEmptyPlaces 3 = .ok (.istore_n 2, 1) := by decide +kernel
theorem dX8_findEmptyPlaces_4 : decode cX8_findEmptyPlaces 4 = .ok (.iload_n 2, 1) := by decide +kernel
theorem dX8_findEmptyPlaces_5 : decode cX8_findEmptyPlaces 5 = .ok (.bipush 12, 2) := by decide +kernel
theorem dX8_findEmptyPlaces_7 : decode cX8_findEmptyPlaces 7 = .ok (.if_icmp .ge 37, 3) := by decide +kernel
theorem dX8_findEmptyPlaces_10 : decode cX8_findEmptyPlaces 10 = .ok (.iload_n 1, 1) := by decide +kernel
theorem dX8_findEmptyPlaces_11 : decode cX8_findEmptyPlaces 11 = .ok (.iconst 3, 1) := by decide +kernel
theorem dX8_findEmptyPlaces_12 : decode cX8_findEmptyPlaces 12 = .ok (.if_icmp .ge 32, 3) := by decide +kernel
theorem dX8_findEmptyPlaces_15 : decode cX8_findEmptyPlaces 15 = .ok (.aload_n 0, 1) := by decide +kernel
theorem dX8_findEmptyPlaces_16 : decode cX8_findEmptyPlaces 16 = .ok (.getfield 12, 3) := by decide +kernel
theorem dX8_findEmptyPlaces_19 : decode cX8_findEmptyPlaces 19 = .ok (.getfield 57, 3) := by decide +kernel
theorem dX8_findEmptyPlaces_22 : decode cX8_findEmptyPlaces 22 = .ok (.iload_n 2, 1) := by decide +kernel
theorem dX8_findEmptyPlaces_23 : decode cX8_findEmptyPlaces 23 = .ok (.iaload, 1) := by decide +kernel
theorem dX8_findEmptyPlaces_24 : decode cX8_findEmptyPlaces 24 = .ok (.iconst (-1), 1) := by decide +kernel
theorem dX8_findEmptyPlaces_25 : decode cX8_findEmptyPlaces 25 = .ok (.if_icmp .ne 13, 3) := by decide +kernel
theorem dX8_findEmptyPlaces_28 : decode cX8_findEmptyPlaces 28 = .ok (.aload_n 0, 1) := by decide +kernel
theorem dX8_findEmptyPlaces_29 : decode cX8_findEmptyPlaces 29 = .ok (.getfield 25, 3) := by decide +kernel
theorem dX8_findEmptyPlaces_32 : decode cX8_findEmptyPlaces 32 = .ok (.iload_n 1, 1) := by decide +kernel
theorem dX8_findEmptyPlaces_33 : decode cX8_findEmptyPlaces 33 = .ok (.iload_n 2, 1) := by decide +kernel
theorem dX8_findEmptyPlaces_34 : decode cX8_findEmptyPlaces 34 = .ok (.iastore, 1) := by decide +kernel
theorem dX8_findEmptyPlaces_35 : decode cX8_findEmptyPlaces 35 = .ok (.iinc 1 1, 3) := by decide +kernel
theorem dX8_findEmptyPlaces_38 : decode cX8_findEmptyPlaces 38 = .ok (.iinc 2 1, 3) := by decide +kernel
theorem dX8_findEmptyPlaces_41 : decode cX8_findEmptyPlaces 41 = .ok (.goto (-37), 3) := by decide +kernel
theorem dX8_findEmptyPlaces_44 : decode cX8_findEmptyPlaces 44 = .ok (.iload_n 1, 1) := by decide +kernel
theorem dX8_findEmptyPlaces_45 : decode cX8_findEmptyPlaces 45 = .ok (.ireturn, 1) := by decide +kernel
theorem dX8_isEnough_0 : decode cX8_isEnough 0 = .ok (.iconst 1, 1) := by decide +kernel
theorem dX8_isEnough_1 : decode cX8_isEnough 1 = .ok (.iconst 3, 1) := by decide +kernel
theorem dX8_isEnough_2 : decode cX8_isEnough 2 = .ok (.iload_n 3, 1) := by decide +kernel
theorem dX8_isEnough_3 : decode cX8_isEnough 3 = .ok (.imul, 1) := by decide +kernel
theorem dX8_isEnough_4 : decode cX8_isEnough 4 = .ok (.ishl, 1) := by decide +kernel
theorem dX8_isEnough_5 : decode cX8_isEnough 5 = .ok (.istore 4, 2) := by decide +kernel
theorem dX8_isEnough_7 : decode cX8_isEnough 7 = .ok (.iconst 0, 1) := by decide +kernel
theorem dX8_isEnough_8 : decode cX8_isEnough 8 = .ok (.istore 5, 2) := by decide +kernel
theorem dX8_isEnough_10 : decode cX8_isEnough 10 = .ok (.iload 5, 2) := by decide +kernel
theorem dX8_isEnough_12 : decode cX8_isEnough 12 = .ok (.iload 4, 2) := by decide +kernel
theorem dX8_isEnough_14 : decode cX8_isEnough 14 = .ok (.if_icmp .ge 52, 3) := by decide +kernel
theorem dX8_isEnough_17 : decode cX8_isEnough 17 = .ok (.aload_n 0, 1) := by decide +kernel
theorem dX8_isEnough_18 : decode cX8_isEnough 18 = .ok (.iload 5, 2) := by decide +kernel
theorem dX8_isEnough_20 : decode cX8_isEnough 20 = .ok (.iload_n 2, 1) := by decide +kernel
theorem dX8_isEnough_21 : decode cX8_isEnough 21 = .ok (.iload_n 3, 1) := by decide +kernel
theorem dX8_isEnough_22 : decode cX8_isEnough 22 = .ok (.invokevirtual 60, 3) := by decide +kernel
theorem dX8_isEnough_25 : decode cX8_isEnough 25 = .ok (.ifCond .eq 35, 3) := by decide +kernel
theorem dX8_isEnough_28 : decode cX8_isEnough 28 = .ok (.aload_n 0, 1) := by decide +kernel
theorem dX8_isEnough_29 : decode cX8_isEnough 29 = .ok (.getfield 21, 3) := by decide +kernel
theorem dX8_isEnough_32 : decode cX8_isEnough 32 = .ok (.aload_n 0, 1) := by decide +kernel
theorem dX8_isEnough_33 : decode cX8_isEnough 33 = .ok (.getfield 12, 3) := by decide +kernel
theorem dX8_isEnough_36 : decode cX8_isEnough 36 = .ok (.iload_n 1, 1) := by decide +kernel
theorem dX8_isEnough_37 : decode cX8_isEnough 37 = .ok (.aload_n 0, 1) := by decide +kernel
theorem dX8_isEnough_38 : decode cX8_isEnough 38 = .ok (.getfield 12, 3) := by decide +kernel
theorem dX8_isEnough_41 : decode cX8_isEnough 41 = .ok (.getfield 63, 3) := by decide +kernel
theorem dX8_isEnough_44 : decode cX8_isEnough 44 = .ok (.invokevirtual 66, 3) := by decide +kernel
theorem dX8_isEnough_47 : decode cX8_isEnough 47 = .ok (.aload_n 0, 1) := by decide +kernel
theorem dX8_isEnough_48 : decode cX8_isEnough 48 = .ok (.getfield 21, 3) := by decide +kernel
theorem dX8_isEnough_51 : decode cX8_isEnough 51 = .ok (.getfield 70, 3) := by decide +kernel
theorem dX8_isEnough_54 : decode cX8_isEnough 54 = .ok (.iload_n 1, 1) := by decide +kernel
theorem dX8_isEnough_55 : decode cX8_isEnough 55 = .ok (.if_icmp .ne 5, 3) := by decide +kernel
theorem dX8_isEnough_58 : decode cX8_isEnough 58 = .ok (.iconst 1, 1) := by decide +kernel
theorem dX8_isEnough_59 : decode cX8_isEnough 59 = .ok (.ireturn, 1) := by decide +kernel
theorem dX8_isEnough_60 : decode cX8_isEnough 60 = .ok (.iinc 5 1, 3) := by decide +kernel
theorem dX8_isEnough_63 : decode cX8_isEnough 63 = .ok (.goto (-53), 3) := by decide +kernel
theorem dX8_isEnough_66 : decode cX8_isEnough 66 = .ok (.iconst 0, 1) := by decide +kernel
theorem dX8_isEnough_67 : decode cX8_isEnough 67 = .ok (.ireturn, 1) := by decide +kernel
theorem dX8_putRow_0 : decode cX8_putRow 0 = .ok (.iconst 0, 1) := by decide +kernel
theorem dX8_putRow_1 : decode cX8_putRow 1 = .ok (.istore 4, 2) := by decide +kernel
theorem dX8_putRow_3 : decode cX8_putRow 3 = .ok (.iload 4, 2) := by decide +kernel
theorem dX8_putRow_5 : decode cX8_putRow 5 = .ok (.iload_n 3, 1) := by decide +kernel
theorem dX8_putRow_6 : decode cX8_putRow 6 = .ok (.if_icmp .ge 66, 3) := by decide +kernel
theorem dX8_putRow_9 : decode cX8_putRow 9 = .ok (.iload 4, 2) := by decide +kernel
theorem dX8_putRow_11 : decode cX8_putRow 11 = .ok (.iconst 3, 1) := by decide +kernel
theorem dX8_putRow_12 : decode cX8_putRow 12 = .ok (.if_icmp .ge 60, 3) := by decide +kernel
theorem dX8_putRow_15 : decode cX8_putRow 15 = .ok (.iload_n 1, 1) := by decide +kernel
theorem dX8_putRow_16 : decode cX8_putRow 16 = .ok (.iconst 3, 1) := by decide +kernel
theorem dX8_putRow_17 : decode cX8_putRow 17 = .ok (.iload_n 3, 1) := by decide +kernel
theorem dX8_putRow_18 : decode cX8_putRow 18 = .ok (.iconst 1, 1) := by decide +kernel
theorem dX8_putRow_19 : decode cX8_putRow 19 = .ok (.isub, 1) := by decide +kernel
theorem dX8_putRow_20 : decode cX8_putRow 20 = .ok (.iload 4, 2) := by decide +kernel
theorem dX8_putRow_22 : decode cX8_putRow 22 = .ok (.isub, 1) := by decide +kernel
theorem dX8_putRow_23 : decode cX8_putRow 23 = .ok (.imul, 1) := by decide +kernel
theorem dX8_putRow_24 : decode cX8_putRow 24 = .ok (.ishr, 1) := by decide +kernel
theorem dX8_putRow_25 : decode cX8_putRow 25 = .ok (.bipush 7, 2) := by decide +kernel
theorem dX8_putRow_27 : decode cX8_putRow 27 = .ok (.iand, 1) := by decide +kernel
theorem dX8_putRow_28 : decode cX8_putRow 28 = .ok (.istore 5, 2) := by decide +kernel
theorem dX8_putRow_30 : decode cX8_putRow 30 = .ok (.iload_n 2, 1) := by decide +kernel
theorem dX8_putRow_31 : decode cX8_putRow 31 = .ok (.iload 5, 2) := by decide +kernel
theorem dX8_putRow_33 : decode cX8_putRow 33 = .ok (.ishr, 1) := by decide +kernel
theorem dX8_putRow_34 : decode cX8_putRow 34 = .ok (.iconst 1, 1) := by decide +kernel
theorem dX8_putRow_35 : decode cX8_putRow 35 = .ok (.iand, 1) := by decide +kernel
theorem dX8_putRow_36 : decode cX8_putRow 36 = .ok (.ifCond .ne 5, 3) := by decide +kernel
theorem dX8_putRow_39 : decode cX8_putRow 39 = .ok (.iconst 0, 1) := by decide +kernel
theorem dX8_putRow_40 : decode cX8_putRow 40 = .ok (.ireturn, 1) := by decide +kernel
theorem dX8_putRow_41 : decode cX8_putRow 41 = .ok (.aload_n 0, 1) := by decide +kernel
theorem dX8_putRow_42 : decode cX8_putRow 42 = .ok (.getfield 29, 3) := by decide +kernel
theorem dX8_putRow_45 : decode cX8_putRow 45 = .ok (.iload 4, 2) := by decide +kernel
theorem dX8_putRow_47 : decode cX8_putRow 47 = .ok (.iload 5, 2) := by decide +kernel
theorem dX8_putRow_49 : decode cX8_putRow 49 = .ok (.iastore, 1) := by decide +kernel
theorem dX8_putRow_50 : decode cX8_putRow 50 = .ok (.aload_n 0, 1) := by decide +kernel
theorem dX8_putRow_51 : decode cX8_putRow 51 = .ok (.getfield 12, 3) := by decide +kernel
theorem dX8_putRow_54 : decode cX8_putRow 54 = .ok (.aload_n 0, 1) := by decide +kernel
theorem dX8_putRow_55 : decode cX8_putRow 55 = .ok (.getfield 25, 3) := by decide +kernel
theorem dX8_putRow_58 : decode cX8_putRow 58 = .ok (.iload 4, 2) := by decide +kernel
theorem dX8_putRow_60 : decode cX8_putRow 60 = .ok (.iaload, 1) := by decide +kernel
theorem dX8_putRow_61 : decode cX8_putRow 61 = .ok (.iload 5, 2) := by decide +kernel
theorem dX8_putRow_63 : decode cX8_putRow 63 = .ok (.invokevirtual 73, 3) := by decide +kernel
theorem dX8_putRow_66 : decode cX8_putRow 66 = .ok (.iinc 4 1, 3) := by decide +kernel
theorem dX8_putRow_69 : decode cX8_putRow 69 = .ok (.goto (-66), 3) := by decide +kernel
theorem dX8_putRow_72 : decode cX8_putRow 72 = .ok (.iconst 1, 1) := by decide +kernel
theorem dX8_putRow_73 : decode cX8_putRow 73 = .ok (.ireturn, 1) := by decide +kernel
theorem dX8_sortSetOut_0 : decode cX8_sortSetOut 0 = .ok (.iload_n 1, 1) := by decide +kernel
theorem dX8_sortSetOut_1 : decode cX8_sortSetOut 1 = .ok (.ifCond .lt 17, 3) := by decide +kernel
theorem dX8_sortSetOut_4 : decode cX8_sortSetOut 4 = .ok (.iload_n 1, 1) := by decide +kernel
theorem dX8_sortSetOut_5 : decode cX8_sortSetOut 5 = .ok (.iconst 3, 1) := by decide +kernel
theorem dX8_sortSetOut_6 : decode cX8_sortSetOut 6 = .ok (.if_icmp .ge 12, 3) := by decide +kernel
theorem dX8_sortSetOut_9 : decode cX8_sortSetOut 9 = .ok (.aload_n 0, 1) := by decide +kernel
theorem dX8_sortSetOut_10 : decode cX8_sortSetOut 10 = .ok (.getfield 29, 3) := by decide +kernel
theorem dX8_sortSetOut_13 : decode cX8_sortSetOut 13 = .ok (.iload_n 1, 1) := by decide +kernel
theorem dX8_sortSetOut_14 : decode cX8_sortSetOut 14 = .ok (.iaload, 1) := by decide +kernel
theorem dX8_sortSetOut_15 : decode cX8_sortSetOut 15 = .ok (.goto 4, 3) := by decide +kernel
theorem dX8_sortSetOut_18 : decode cX8_sortSetOut 18 = .ok (.iconst (-1), 1) := by decide +kernel
theorem dX8_sortSetOut_19 : decode cX8_sortSetOut 19 = .ok (.ireturn, 1) := by decide +kernel
theorem dX8_kindsTaking_0 : decode cX8_kindsTaking 0 = .ok (.aload_n 0, 1) := by decide +kernel
theorem dX8_kindsTaking_1 : decode cX8_kindsTaking 1 = .ok (.getfield 12, 3) := by decide +kernel
theorem dX8_kindsTaking_4 : decode cX8_kindsTaking 4 = .ok (.aload_n 1, 1) := by decide +kernel
theorem dX8_kindsTaking_5 : decode cX8_kindsTaking 5 = .ok (.invokevirtual 32, 3) := by decide +kernel
theorem dX8_kindsTaking_8 : decode cX8_kindsTaking 8 = .ok (.iconst 0, 1) := by decide +kernel
theorem dX8_kindsTaking_9 : decode cX8_kindsTaking 9 = .ok (.istore 5, 2) := by decide +kernel
theorem dX8_kindsTaking_11 : decode cX8_kindsTaking 11 = .ok (.iconst 0, 1) := by decide +kernel
theorem dX8_kindsTaking_12 : decode cX8_kindsTaking 12 = .ok (.istore 6, 2) := by decide +kernel
theorem dX8_kindsTaking_14 : decode cX8_kindsTaking 14 = .ok (.iload 6, 2) := by decide +kernel
theorem dX8_kindsTaking_16 : decode cX8_kindsTaking 16 = .ok (.bipush 6, 2) := by decide +kernel
theorem dX8_kindsTaking_18 : decode cX8_kindsTaking 18 = .ok (.if_icmp .ge 65, 3) := by decide +kernel
theorem dX8_kindsTaking_21 : decode cX8_kindsTaking 21 = .ok (.aload_n 0, 1) := by decide +kernel
theorem dX8_kindsTaking_22 : decode cX8_kindsTaking 22 = .ok (.getfield 12, 3) := by decide +kernel
theorem dX8_kindsTaking_25 : decode cX8_kindsTaking 25 = .ok (.getfield 44, 3) := by decide +kernel
theorem dX8_kindsTaking_28 : decode cX8_kindsTaking 28 = .ok (.iload_n 3, 1) := by decide +kernel
theorem dX8_kindsTaking_29 : decode cX8_kindsTaking 29 = .ok (.aaload, 1) := by decide +kernel
theorem dX8_kindsTaking_30 : decode cX8_kindsTaking 30 = .ok (.iload 6, 2) := by decide +kernel
theorem dX8_kindsTaking_32 : decode cX8_kindsTaking 32 = .ok (.putfield 77, 3) := by decide +kernel
theorem dX8_kindsTaking_35 : decode cX8_kindsTaking 35 = .ok (.aload_n 0, 1) := by decide +kernel
theorem dX8_kindsTaking_36 : decode cX8_kindsTaking 36 = .ok (.getfield 21, 3) := by decide +kernel
theorem dX8_kindsTaking_39 : decode cX8_kindsTaking 39 = .ok (.aload_n 0, 1) := by decide +kernel
theorem dX8_kindsTaking_40 : decode cX8_kindsTaking 40 = .ok (.getfield 12, 3) := by decide +kernel
theorem dX8_kindsTaking_43 : decode cX8_kindsTaking 43 = .ok (.iload_n 2, 1) := by decide +kernel
theorem dX8_kindsTaking_44 : decode cX8_kindsTaking 44 = .ok (.aload_n 0, 1) := by decide +kernel
theorem dX8_kindsTaking_45 : decode cX8_kindsTaking 45 = .ok (.getfield 12, 3) := by decide +kernel
theorem dX8_kindsTaking_48 : decode cX8_kindsTaking 48 = .ok (.getfield 63, 3) := by decide +kernel
theorem dX8_kindsTaking_51 : decode cX8_kindsTaking 51 = .ok (.invokevirtual 66, 3) := by decide +kernel
theorem dX8_kindsTaking_54 : decode cX8_kindsTaking 54 = .ok (.aload_n 0, 1) := by decide +kernel
theorem dX8_kindsTaking_55 : decode cX8_kindsTaking 55 = .ok (.getfield 21, 3) := by decide +kernel
theorem dX8_kindsTaking_58 : decode cX8_kindsTaking 58 = .ok (.getfield 80, 3) := by decide +kernel
theorem dX8_kindsTaking_61 : decode cX8_kindsTaking 61 = .ok (.iload_n 3, 1) := by decide +kernel
theorem dX8_kindsTaking_62 : decode cX8_kindsTaking 62 = .ok (.iaload, 1) := by decide +kernel
theorem dX8_kindsTaking_63 : decode cX8_kindsTaking 63 = .ok (.iload 4, 2) := by decide +kernel
theorem dX8_kindsTaking_65 : decode cX8_kindsTaking 65 = .ok (.if_icmp .ne 12, 3) := by decide +kernel
theorem dX8_kindsTaking_68 : decode cX8_kindsTaking 68 = .ok (.iload 5, 2) := by decide +kernel
theorem dX8_kindsTaking_70 : decode cX8_kindsTaking 70 = .ok (.iconst 1, 1) := by decide +kernel
theorem dX8_kindsTaking_71 : decode cX8_kindsTaking 71 = .ok (.iload 6, 2) := by decide +kernel
theorem dX8_kindsTaking_73 : decode cX8_kindsTaking 73 = .ok (.ishl, 1) := by decide +kernel
theorem dX8_kindsTaking_74 : decode cX8_kindsTaking 74 = .ok (.ior, 1) := by decide +kernel
theorem dX8_kindsTaking_75 : decode cX8_kindsTaking 75 = .ok (.istore 5, 2) := by decide +kernel
theorem dX8_kindsTaking_77 : decode cX8_kindsTaking 77 = .ok (.iinc 6 1, 3) := by decide +kernel
theorem dX8_kindsTaking_80 : decode cX8_kindsTaking 80 = .ok (.goto (-66), 3) := by decide +kernel
theorem dX8_kindsTaking_83 : decode cX8_kindsTaking 83 = .ok (.iload 5, 2) := by decide +kernel
theorem dX8_kindsTaking_85 : decode cX8_kindsTaking 85 = .ok (.ireturn, 1) := by decide +kernel
theorem dX8_wishesTaking_0 : decode cX8_wishesTaking 0 = .ok (.aload_n 0, 1) := by decide +kernel
theorem dX8_wishesTaking_1 : decode cX8_wishesTaking 1 = .ok (.getfield 12, 3) := by decide +kernel
theorem dX8_wishesTaking_4 : decode cX8_wishesTaking 4 = .ok (.aload_n 1, 1) := by decide +kernel
theorem dX8_wishesTaking_5 : decode cX8_wishesTaking 5 = .ok (.invokevirtual 32, 3) := by decide +kernel
theorem dX8_wishesTaking_8 : decode cX8_wishesTaking 8 = .ok (.iconst 0, 1) := by decide +kernel
theorem dX8_wishesTaking_9 : decode cX8_wishesTaking 9 = .ok (.istore 5, 2) := by decide +kernel
theorem dX8_wishesTaking_11 : decode cX8_wishesTaking 11 = .ok (.iconst 0, 1) := by decide +kernel
theorem dX8_wishesTaking_12 : decode cX8_wishesTaking 12 = .ok (.istore 6, 2) := by decide +kernel
theorem dX8_wishesTaking_14 : decode cX8_wishesTaking 14 = .ok (.iload 6, 2) := by decide +kernel
theorem dX8_wishesTaking_16 : decode cX8_wishesTaking 16 = .ok (.bipush 8, 2) := by decide +kernel
theorem dX8_wishesTaking_18 : decode cX8_wishesTaking 18 = .ok (.if_icmp .ge 65, 3) := by decide +kernel
theorem dX8_wishesTaking_21 : decode cX8_wishesTaking 21 = .ok (.aload_n 0, 1) := by decide +kernel
theorem dX8_wishesTaking_22 : decode cX8_wishesTaking 22 = .ok (.getfield 12, 3) := by decide +kernel
theorem dX8_wishesTaking_25 : decode cX8_wishesTaking 25 = .ok (.getfield 44, 3) := by decide +kernel
theorem dX8_wishesTaking_28 : decode cX8_wishesTaking 28 = .ok (.iload_n 3, 1) := by decide +kernel
theorem dX8_wishesTaking_29 : decode cX8_wishesTaking 29 = .ok (.aaload, 1) := by decide +kernel
theorem dX8_wishesTaking_30 : decode cX8_wishesTaking 30 = .ok (.iload 6, 2) := by decide +kernel
theorem dX8_wishesTaking_32 : decode cX8_wishesTaking 32 = .ok (.putfield 48, 3) := by decide +kernel
theorem dX8_wishesTaking_35 : decode cX8_wishesTaking 35 = .ok (.aload_n 0, 1) := by decide +kernel
theorem dX8_wishesTaking_36 : decode cX8_wishesTaking 36 = .ok (.getfield 21, 3) := by decide +kernel
theorem dX8_wishesTaking_39 : decode cX8_wishesTaking 39 = .ok (.aload_n 0, 1) := by decide +kernel
theorem dX8_wishesTaking_40 : decode cX8_wishesTaking 40 = .ok (.getfield 12, 3) := by decide +kernel
theorem dX8_wishesTaking_43 : decode cX8_wishesTaking 43 = .ok (.iload_n 2, 1) := by decide +kernel
theorem dX8_wishesTaking_44 : decode cX8_wishesTaking 44 = .ok (.aload_n 0, 1) := by decide +kernel
theorem dX8_wishesTaking_45 : decode cX8_wishesTaking 45 = .ok (.getfield 12, 3) := by decide +kernel
theorem dX8_wishesTaking_48 : decode cX8_wishesTaking 48 = .ok (.getfield 63, 3) := by decide +kernel
theorem dX8_wishesTaking_51 : decode cX8_wishesTaking 51 = .ok (.invokevirtual 66, 3) := by decide +kernel
theorem dX8_wishesTaking_54 : decode cX8_wishesTaking 54 = .ok (.aload_n 0, 1) := by decide +kernel
theorem dX8_wishesTaking_55 : decode cX8_wishesTaking 55 = .ok (.getfield 21, 3) := by decide +kernel
theorem dX8_wishesTaking_58 : decode cX8_wishesTaking 58 = .ok (.getfield 80, 3) := by decide +kernel
theorem dX8_wishesTaking_61 : decode cX8_wishesTaking 61 = .ok (.iload_n 3, 1) := by decide +kernel
theorem dX8_wishesTaking_62 : decode cX8_wishesTaking 62 = .ok (.iaload, 1) := by decide +kernel
theorem dX8_wishesTaking_63 : decode cX8_wishesTaking 63 = .ok (.iload 4, 2) := by decide +kernel
theorem dX8_wishesTaking_65 : decode cX8_wishesTaking 65 = .ok (.if_icmp .ne 12, 3) := by decide +kernel
theorem dX8_wishesTaking_68 : decode cX8_wishesTaking 68 = .ok (.iload 5, 2) := by decide +kernel
theorem dX8_wishesTaking_70 : decode cX8_wishesTaking 70 = .ok (.iconst 1, 1) := by decide +kernel
theorem dX8_wishesTaking_71 : decode cX8_wishesTaking 71 = .ok (.iload 6, 2) := by decide +kernel
theorem dX8_wishesTaking_73 : decode cX8_wishesTaking 73 = .ok (.ishl, 1) := by decide +kernel
theorem dX8_wishesTaking_74 : decode cX8_wishesTaking 74 = .ok (.ior, 1) := by decide +kernel
theorem dX8_wishesTaking_75 : decode cX8_wishesTaking 75 = .ok (.istore 5, 2) := by decide +kernel
theorem dX8_wishesTaking_77 : decode cX8_wishesTaking 77 = .ok (.iinc 6 1, 3) := by decide +kernel
theorem dX8_wishesTaking_80 : decode cX8_wishesTaking 80 = .ok (.goto (-66), 3) := by decide +kernel
theorem dX8_wishesTaking_83 : decode cX8_wishesTaking 83 = .ok (.iload 5, 2) := by decide +kernel
theorem dX8_wishesTaking_85 : decode cX8_wishesTaking 85 = .ok (.ireturn, 1) := by decide +kernel
theorem dX8_gladExchanged_0 : decode cX8_gladExchanged 0 = .ok (.aload_n 0, 1) := by decide +kernel
theorem dX8_gladExchanged_1 : decode cX8_gladExchanged 1 = .ok (.getfield 12, 3) := by decide +kernel
theorem dX8_gladExchanged_4 : decode cX8_gladExchanged 4 = .ok (.aload_n 1, 1) := by decide +kernel
theorem dX8_gladExchanged_5 : decode cX8_gladExchanged 5 = .ok (.invokevirtual 32, 3) := by decide +kernel
theorem dX8_gladExchanged_8 : decode cX8_gladExchanged 8 = .ok (.aload_n 0, 1) := by decide +kernel
theorem dX8_gladExchanged_9 : decode cX8_gladExchanged 9 = .ok (.getfield 12, 3) := by decide +kernel
theorem dX8_gladExchanged_12 : decode cX8_gladExchanged 12 = .ok (.iload_n 2, 1) := by decide +kernel
theorem dX8_gladExchanged_13 : decode cX8_gladExchanged 13 = .ok (.aload_n 1, 1) := by decide +kernel
theorem dX8_gladExchanged_14 : decode cX8_gladExchanged 14 = .ok (.getfield 44, 3) := by decide +kernel
theorem dX8_gladExchanged_17 : decode cX8_gladExchanged 17 = .ok (.iload_n 3, 1) := by decide +kernel
theorem dX8_gladExchanged_18 : decode cX8_gladExchanged 18 = .ok (.aaload, 1) := by decide +kernel
theorem dX8_gladExchanged_19 : decode cX8_gladExchanged 19 = .ok (.getfield 83, 3) := by decide +kernel
theorem dX8_gladExchanged_22 : decode cX8_gladExchanged 22 = .ok (.invokevirtual 86, 3) := by decide +kernel
theorem dX8_gladExchanged_25 : decode cX8_gladExchanged 25 = .ok (.aload_n 0, 1) := by decide +kernel
theorem dX8_gladExchanged_26 : decode cX8_gladExchanged 26 = .ok (.getfield 12, 3) := by decide +kernel
theorem dX8_gladExchanged_29 : decode cX8_gladExchanged 29 = .ok (.iload_n 3, 1) := by decide +kernel
theorem dX8_gladExchanged_30 : decode cX8_gladExchanged 30 = .ok (.aload_n 1, 1) := by decide +kernel
theorem dX8_gladExchanged_31 : decode cX8_gladExchanged 31 = .ok (.getfield 44, 3) := by decide +kernel
theorem dX8_gladExchanged_34 : decode cX8_gladExchanged 34 = .ok (.iload_n 2, 1) := by decide +kernel
theorem dX8_gladExchanged_35 : decode cX8_gladExchanged 35 = .ok (.aaload, 1) := by decide +kernel
theorem dX8_gladExchanged_36 : decode cX8_gladExchanged 36 = .ok (.getfield 83, 3) := by decide +kernel
theorem dX8_gladExchanged_39 : decode cX8_gladExchanged 39 = .ok (.invokevirtual 86, 3) := by decide +kernel
theorem dX8_gladExchanged_42 : decode cX8_gladExchanged 42 = .ok (.aload_n 0, 1) := by decide +kernel
theorem dX8_gladExchanged_43 : decode cX8_gladExchanged 43 = .ok (.getfield 21, 3) := by decide +kernel
theorem dX8_gladExchanged_46 : decode cX8_gladExchanged 46 = .ok (.aload_n 0, 1) := by decide +kernel
theorem dX8_gladExchanged_47 : decode cX8_gladExchanged 47 = .ok (.getfield 12, 3) := by decide +kernel
theorem dX8_gladExchanged_50 : decode cX8_gladExchanged 50 = .ok (.aload_n 0, 1) := by decide +kernel
theorem dX8_gladExchanged_51 : decode cX8_gladExchanged 51 = .ok (.getfield 12, 3) := by decide +kernel
theorem dX8_gladExchanged_54 : decode cX8_gladExchanged 54 = .ok (.invokevirtual 89, 3) := by decide +kernel
theorem dX8_gladExchanged_57 : decode cX8_gladExchanged 57 = .ok (.aload_n 0, 1) := by decide +kernel
theorem dX8_gladExchanged_58 : decode cX8_gladExchanged 58 = .ok (.getfield 12, 3) := by decide +kernel
theorem dX8_gladExchanged_61 : decode cX8_gladExchanged 61 = .ok (.getfield 63, 3) := by decide +kernel
theorem dX8_gladExchanged_64 : decode cX8_gladExchanged 64 = .ok (.invokevirtual 66, 3) := by decide +kernel
theorem dX8_gladExchanged_67 : decode cX8_gladExchanged 67 = .ok (.aload_n 0, 1) := by decide +kernel
theorem dX8_gladExchanged_68 : decode cX8_gladExchanged 68 = .ok (.getfield 21, 3) := by decide +kernel
theorem dX8_gladExchanged_71 : decode cX8_gladExchanged 71 = .ok (.getfield 70, 3) := by decide +kernel
theorem dX8_gladExchanged_74 : decode cX8_gladExchanged 74 = .ok (.invokestatic 92, 3) := by decide +kernel
theorem dX8_gladExchanged_77 : decode cX8_gladExchanged 77 = .ok (.ireturn, 1) := by decide +kernel
theorem dX8_bestExchange_0 : decode cX8_bestExchange 0 = .ok (.iconst (-1), 1) := by decide +kernel
theorem dX8_bestExchange_1 : decode cX8_bestExchange 1 = .ok (.istore_n 2, 1) := by decide +kernel
theorem dX8_bestExchange_2 : decode cX8_bestExchange 2 = .ok (.iconst (-1), 1) := by decide +kernel
theorem dX8_bestExchange_3 : decode cX8_bestExchange 3 = .ok (.istore_n 3, 1) := by decide +kernel
theorem dX8_bestExchange_4 : decode cX8_bestExchange 4 = .ok (.iconst 0, 1) := by decide +kernel
theorem dX8_bestExchange_5 : decode cX8_bestExchange 5 = .ok (.istore 4, 2) := by decide +kernel
theorem dX8_bestExchange_7 : decode cX8_bestExchange 7 = .ok (.iload 4, 2) := by decide +kernel
theorem dX8_bestExchange_9 : decode cX8_bestExchange 9 = .ok (.aload_n 1, 1) := by decide +kernel
theorem dX8_bestExchange_10 : decode cX8_bestExchange 10 = .ok (.getfield 40, 3) := by decide +kernel
theorem dX8_bestExchange_13 : decode cX8_bestExchange 13 = .ok (.if_icmp .ge 59, 3) := by decide +kernel
theorem dX8_bestExchange_16 : decode cX8_bestExchange 16 = .ok (.iload 4, 2) := by decide +kernel
theorem dX8_bestExchange_18 : decode cX8_bestExchange 18 = .ok (.iconst 1, 1) := by decide +kernel
theorem dX8_bestExchange_19 : decode cX8_bestExchange 19 = .ok (.iadd, 1) := by decide +kernel
theorem dX8_bestExchange_20 : decode cX8_bestExchange 20 = .ok (.istore 5, 2) := by decide +kernel
theorem dX8_bestExchange_22 : decode cX8_bestExchange 22 = .ok (.iload 5, 2) := by decide +kernel
theorem dX8_bestExchange_24 : decode cX8_bestExchange 24 = .ok (.aload_n 1, 1) := by decide +kernel
theorem dX8_bestExchange_25 : decode cX8_bestExchange 25 = .ok (.getfield 40, 3) := by decide +kernel
theorem dX8_bestExchange_28 : decode cX8_bestExchange 28 = .ok (.if_icmp .ge 38, 3) := by decide +kernel
theorem dX8_bestExchange_31 : decode cX8_bestExchange 31 = .ok (.aload_n 0, 1) := by decide +kernel
theorem dX8_bestExchange_32 : decode cX8_bestExchange 32 = .ok (.aload_n 1, 1) := by decide +kernel
theorem dX8_bestExchange_33 : decode cX8_bestExchange 33 = .ok (.iload 4, 2) := by decide +kernel
theorem dX8_bestExchange_35 : decode cX8_bestExchange 35 = .ok (.iload 5, 2) := by decide +kernel
theorem dX8_bestExchange_37 : decode cX8_bestExchange 37 = .ok (.invokevirtual 98, 3) := by decide +kernel
theorem dX8_bestExchange_40 : decode cX8_bestExchange 40 = .ok (.istore 6, 2) := by decide +kernel
theorem dX8_bestExchange_42 : decode cX8_bestExchange 42 = .ok (.iload 6, 2) := by decide +kernel
theorem dX8_bestExchange_44 : decode cX8_bestExchange 44 = .ok (.iload_n 3, 1) := by decide +kernel
theorem dX8_bestExchange_45 : decode cX8_bestExchange 45 = .ok (.if_icmp .le 15, 3) := by decide +kernel
theorem dX8_bestExchange_48 : decode cX8_bestExchange 48 = .ok (.iload 6, 2) := by decide +kernel
theorem dX8_bestExchange_50 : decode cX8_bestExchange 50 = .ok (.istore_n 3, 1) := by decide +kernel
theorem dX8_bestExchange_51 : decode cX8_bestExchange 51 = .ok (.bipush 10, 2) := by decide +kernel
theorem dX8_bestExchange_53 : decode cX8_bestExchange 53 = .ok (.iload 4, 2) := by decide +kernel
theorem dX8_bestExchange_55 : decode cX8_bestExchange 55 = .ok (.imul, 1) := by decide +kernel
theorem dX8_bestExchange_56 : decode cX8_bestExchange 56 = .ok (.iload 5, 2) := by decide +kernel
theorem dX8_bestExchange_58 : decode cX8_bestExchange 58 = .ok (.iadd, 1) := by decide +kernel
theorem dX8_bestExchange_59 : decode cX8_bestExchange 59 = .ok (.istore_n 2, 1) := by decide +kernel
theorem dX8_bestExchange_60 : decode cX8_bestExchange 60 = .ok (.iinc 5 1, 3) := by decide +kernel
theorem dX8_bestExchange_63 : decode cX8_bestExchange 63 = .ok (.goto (-41), 3) := by decide +kernel
theorem dX8_bestExchange_66 : decode cX8_bestExchange 66 = .ok (.iinc 4 1, 3) := by decide +kernel
theorem dX8_bestExchange_69 : decode cX8_bestExchange 69 = .ok (.goto (-62), 3) := by decide +kernel
theorem dX8_bestExchange_72 : decode cX8_bestExchange 72 = .ok (.iload_n 2, 1) := by decide +kernel
theorem dX8_bestExchange_73 : decode cX8_bestExchange 73 = .ok (.ireturn, 1) := by decide +kernel
theorem dX8_greatestGladAge_0 : decode cX8_greatestGladAge 0 = .ok (.aload_n 0, 1) := by decide +kernel
theorem dX8_greatestGladAge_1 : decode cX8_greatestGladAge 1 = .ok (.getfield 12, 3) := by decide +kernel
theorem dX8_greatestGladAge_4 : decode cX8_greatestGladAge 4 = .ok (.aload_n 1, 1) := by decide +kernel
theorem dX8_greatestGladAge_5 : decode cX8_greatestGladAge 5 = .ok (.invokevirtual 32, 3) := by decide +kernel
theorem dX8_greatestGladAge_8 : decode cX8_greatestGladAge 8 = .ok (.bipush 99, 2) := by decide +kernel
theorem dX8_greatestGladAge_10 : decode cX8_greatestGladAge 10 = .ok (.istore_n 3, 1) := by decide +kernel
theorem dX8_greatestGladAge_11 : decode cX8_greatestGladAge 11 = .ok (.iload_n 3, 1) := by decide +kernel
theorem dX8_greatestGladAge_12 : decode cX8_greatestGladAge 12 = .ok (.ifCond .lt 59, 3) := by decide +kernel
theorem dX8_greatestGladAge_15 : decode cX8_greatestGladAge 15 = .ok (.aload_n 0, 1) := by decide +kernel
theorem dX8_greatestGladAge_16 : decode cX8_greatestGladAge 16 = .ok (.getfield 12, 3) := by decide +kernel
theorem dX8_greatestGladAge_19 : decode cX8_greatestGladAge 19 = .ok (.iload_n 2, 1) := by decide +kernel
theorem dX8_greatestGladAge_20 : decode cX8_greatestGladAge 20 = .ok (.iload_n 3, 1) := by decide +kernel
theorem dX8_greatestGladAge_21 : decode cX8_greatestGladAge 21 = .ok (.invokevirtual 86, 3) := by decide +kernel
theorem dX8_greatestGladAge_24 : decode cX8_greatestGladAge 24 = .ok (.aload_n 0, 1) := by decide +kernel
theorem dX8_greatestGladAge_25 : decode cX8_greatestGladAge 25 = .ok (.getfield 21, 3) := by decide +kernel
theorem dX8_greatestGladAge_28 : decode cX8_greatestGladAge 28 = .ok (.aload_n 0, 1) := by decide +kernel
theorem dX8_greatestGladAge_29 : decode cX8_greatestGladAge 29 = .ok (.getfield 12, 3) := by decide +kernel
theorem dX8_greatestGladAge_32 : decode cX8_greatestGladAge 32 = .ok (.aload_n 0, 1) := by decide +kernel
theorem dX8_greatestGladAge_33 : decode cX8_greatestGladAge 33 = .ok (.getfield 12, 3) := by decide +kernel
theorem dX8_greatestGladAge_36 : decode cX8_greatestGladAge 36 = .ok (.invokevirtual 89, 3) := by decide +kernel
theorem dX8_greatestGladAge_39 : decode cX8_greatestGladAge 39 = .ok (.aload_n 0, 1) := by decide +kernel
theorem dX8_greatestGladAge_40 : decode cX8_greatestGladAge 40 = .ok (.getfield 12, 3) := by decide +kernel
theorem dX8_greatestGladAge_43 : decode cX8_greatestGladAge 43 = .ok (.getfield 63, 3) := by decide +kernel
theorem dX8_greatestGladAge_46 : decode cX8_greatestGladAge 46 = .ok (.invokevirtual 66, 3) := by decide +kernel
theorem dX8_greatestGladAge_49 : decode cX8_greatestGladAge 49 = .ok (.aload_n 0, 1) := by decide +kernel
theorem dX8_greatestGladAge_50 : decode cX8_greatestGladAge 50 = .ok (.getfield 21, 3) := by decide +kernel
theorem dX8_greatestGladAge_53 : decode cX8_greatestGladAge 53 = .ok (.getfield 70, 3) := by decide +kernel
theorem dX8_greatestGladAge_56 : decode cX8_greatestGladAge 56 = .ok (.iload_n 2, 1) := by decide +kernel
theorem dX8_greatestGladAge_57 : decode cX8_greatestGladAge 57 = .ok (.ishr, 1) := by decide +kernel
theorem dX8_greatestGladAge_58 : decode cX8_greatestGladAge 58 = .ok (.iconst 1, 1) := by decide +kernel
theorem dX8_greatestGladAge_59 : decode cX8_greatestGladAge 59 = .ok (.iand, 1) := by decide +kernel
theorem dX8_greatestGladAge_60 : decode cX8_greatestGladAge 60 = .ok (.ifCond .eq 5, 3) := by decide +kernel
theorem dX8_greatestGladAge_63 : decode cX8_greatestGladAge 63 = .ok (.iload_n 3, 1) := by decide +kernel
theorem dX8_greatestGladAge_64 : decode cX8_greatestGladAge 64 = .ok (.ireturn, 1) := by decide +kernel
theorem dX8_greatestGladAge_65 : decode cX8_greatestGladAge 65 = .ok (.iinc 3 (-1), 3) := by decide +kernel
theorem dX8_greatestGladAge_68 : decode cX8_greatestGladAge 68 = .ok (.goto (-57), 3) := by decide +kernel
theorem dX8_greatestGladAge_71 : decode cX8_greatestGladAge 71 = .ok (.iconst (-1), 1) := by decide +kernel
theorem dX8_greatestGladAge_72 : decode cX8_greatestGladAge 72 = .ok (.ireturn, 1) := by decide +kernel
theorem dX9_init_0 : decode cX9_init 0 = .ok (.aload_n 0, 1) := by decide +kernel
theorem dX9_init_1 : decode cX9_init 1 = .ok (.invokespecial 3, 3) := by decide +kernel
theorem dX9_init_4 : decode cX9_init 4 = .ok (.aload_n 0, 1) := by decide +kernel
theorem dX9_init_5 : decode cX9_init 5 = .ok (.new 9, 3) := by decide +kernel
theorem dX9_init_8 : decode cX9_init 8 = .ok (.dup, 1) := by decide +kernel
theorem dX9_init_9 : decode cX9_init 9 = .ok (.invokespecial 11, 3) := by decide +kernel
theorem dX9_init_12 : decode cX9_init 12 = .ok (.putfield 12, 3) := by decide +kernel
theorem dX9_init_15 : decode cX9_init 15 = .ok (.aload_n 0, 1) := by decide +kernel
theorem dX9_init_16 : decode cX9_init 16 = .ok (.new 9, 3) := by decide +kernel
theorem dX9_init_19 : decode cX9_init 19 = .ok (.dup, 1) := by decide +kernel
theorem dX9_init_20 : decode cX9_init 20 = .ok (.invokespecial 11, 3) := by decide +kernel
theorem dX9_init_23 : decode cX9_init 23 = .ok (.putfield 16, 3) := by decide +kernel
theorem dX9_init_26 : decode cX9_init 26 = .ok (.aload_n 0, 1) := by decide +kernel
theorem dX9_init_27 : decode cX9_init 27 = .ok (.new 9, 3) := by decide +kernel
theorem dX9_init_30 : decode cX9_init 30 = .ok (.dup, 1) := by decide +kernel
theorem dX9_init_31 : decode cX9_init 31 = .ok (.invokespecial 11, 3) := by decide +kernel
theorem dX9_init_34 : decode cX9_init 34 = .ok (.putfield 19, 3) := by decide +kernel
theorem dX9_init_37 : decode cX9_init 37 = .ok (.aload_n 0, 1) := by decide +kernel
theorem dX9_init_38 : decode cX9_init 38 = .ok (.new 22, 3) := by decide +kernel
theorem dX9_init_41 : decode cX9_init 41 = .ok (.dup, 1) := by decide +kernel
theorem dX9_init_42 : decode cX9_init 42 = .ok (.invokespecial 24, 3) := by decide +kernel
theorem dX9_init_45 : decode cX9_init 45 = .ok (.putfield 25, 3) := by decide +kernel
theorem dX9_init_48 : decode cX9_init 48 = .ok (.aload_n 0, 1) := by decide +kernel
theorem dX9_init_49 : decode cX9_init 49 = .ok (.new 29, 3) := by decide +kernel
theorem dX9_init_52 : decode cX9_init 52 = .ok (.dup, 1) := by decide +kernel
theorem dX9_init_53 : decode cX9_init 53 = .ok (.invokespecial 31, 3) := by decide +kernel
theorem dX9_init_56 : decode cX9_init 56 = .ok (.putfield 32, 3) := by decide +kernel
theorem dX9_init_59 : decode cX9_init 59 = .ok (.aload_n 0, 1) := by decide +kernel
theorem dX9_init_60 : decode cX9_init 60 = .ok (.new 36, 3) := by decide +kernel
theorem dX9_init_63 : decode cX9_init 63 = .ok (.dup, 1) := by decide +kernel
theorem dX9_init_64 : decode cX9_init 64 = .ok (.invokespecial 38, 3) := by decide +kernel
theorem dX9_init_67 : decode cX9_init 67 = .ok (.putfield 39, 3) := by decide +kernel
theorem dX9_init_70 : decode cX9_init 70 = .ok (.aload_n 0, 1) := by decide +kernel
theorem dX9_init_71 : decode cX9_init 71 = .ok (.new 43, 3) := by decide +kernel
theorem dX9_init_74 : decode cX9_init 74 = .ok (.dup, 1) := by decide +kernel
theorem dX9_init_75 : decode cX9_init 75 = .ok (.invokespecial 45, 3) := by decide +kernel
theorem dX9_init_78 : decode cX9_init 78 = .ok (.putfield 46, 3) := by decide +kernel
theorem dX9_init_81 : decode cX9_init 81 = .ok (.aload_n 0, 1) := by decide +kernel
theorem dX9_init_82 : decode cX9_init 82 = .ok (.new 50, 3) := by decide +kernel
theorem dX9_init_85 : decode cX9_init 85 = .ok (.dup, 1) := by decide +kernel
theorem dX9_init_86 : decode cX9_init 86 = .ok (.invokespecial 52, 3) := by decide +kernel
theorem dX9_init_89 : decode cX9_init 89 = .ok (.putfield 53, 3) := by decide +kernel
theorem dX9_init_92 : decode cX9_init 92 = .ok (.aload_n 0, 1) := by decide +kernel
theorem dX9_init_93 : decode cX9_init 93 = .ok (.new 57, 3) := by decide +kernel
theorem dX9_init_96 : decode cX9_init 96 = .ok (.dup, 1) := by decide +kernel
theorem dX9_init_97 : decode cX9_init 97 = .ok (.invokespecial 59, 3) := by decide +kernel
theorem dX9_init_100 : decode cX9_init 100 = .ok (.putfield 60, 3) := by decide +kernel
theorem dX9_init_103 : decode cX9_init 103 = .ok (.aload_n 0, 1) := by decide +kernel
theorem dX9_init_104 : decode cX9_init 104 = .ok (.bipush 8, 2) := by decide +kernel
theorem dX9_init_106 : decode cX9_init 106 = .ok (.anewarray 64, 3) := by decide +kernel
theorem dX9_init_109 : decode cX9_init 109 = .ok (.putfield 66, 3) := by decide +kernel
theorem dX9_init_112 : decode cX9_init 112 = .ok (.aload_n 0, 1) := by decide +kernel
theorem dX9_init_113 : decode cX9_init 113 = .ok (.bipush 7, 2) := by decide +kernel
theorem dX9_init_115 : decode cX9_init 115 = .ok (.newarray .int, 2) := by decide +kernel
theorem dX9_init_117 : decode cX9_init 117 = .ok (.putfield 70, 3) := by decide +kernel
theorem dX9_init_120 : decode cX9_init 120 = .ok (.iconst 0, 1) := by decide +kernel
theorem dX9_init_121 : decode cX9_init 121 = .ok (.istore_n 1, 1) := by decide +kernel
theorem dX9_init_122 : decode cX9_init 122 = .ok (.iload_n 1, 1) := by decide +kernel
theorem dX9_init_123 : decode cX9_init 123 = .ok (.bipush 8, 2) := by decide +kernel
theorem dX9_init_125 : decode cX9_init 125 = .ok (.if_icmp .ge 22, 3) := by decide +kernel
theorem dX9_init_128 : decode cX9_init 128 = .ok (.aload_n 0, 1) := by decide +kernel
theorem dX9_init_129 : decode cX9_init 129 = .ok (.getfield 66, 3) := by decide +kernel
theorem dX9_init_132 : decode cX9_init 132 = .ok (.iload_n 1, 1) := by decide +kernel
theorem dX9_init_133 : decode cX9_init 133 = .ok (.new 64, 3) := by decide +kernel
theorem dX9_init_136 : decode cX9_init 136 = .ok (.dup, 1) := by decide +kernel
theorem dX9_init_137 : decode cX9_init 137 = .ok (.invokespecial 74, 3) := by decide +kernel
theorem dX9_init_140 : decode cX9_init 140 = .ok (.aastore, 1) := by decide +kernel
theorem dX9_init_141 : decode cX9_init 141 = .ok (.iinc 1 1, 3) := by decide +kernel
theorem dX9_init_144 : decode cX9_init 144 = .ok (.goto (-22), 3) := by decide +kernel
theorem dX9_init_147 : decode cX9_init 147 = .ok (.return_, 1) := by decide +kernel
theorem dX9_row_0 : decode cX9_row 0 = .ok (.iload_n 1, 1) := by decide +kernel
theorem dX9_row_1 : decode cX9_row 1 = .ok (.invokestatic 75, 3) := by decide +kernel
theorem dX9_row_4 : decode cX9_row 4 = .ok (.ifCond .eq 22, 3) := by decide +kernel
theorem dX9_row_7 : decode cX9_row 7 = .ok (.iload_n 2, 1) := by decide +kernel
theorem dX9_row_8 : decode cX9_row 8 = .ok (.ifCond .lt 18, 3) := by decide +kernel
theorem dX9_row_11 : decode cX9_row 11 = .ok (.iload_n 2, 1) := by decide +kernel
theorem dX9_row_12 : decode cX9_row 12 = .ok (.iconst 5, 1) := by decide +kernel
theorem dX9_row_13 : decode cX9_row 13 = .ok (.if_icmp .ge 13, 3) := by decide +kernel
theorem dX9_row_16 : decode cX9_row 16 = .ok (.iload_n 3, 1) := by decide +kernel
theorem dX9_row_17 : decode cX9_row 17 = .ok (.ifCond .lt 9, 3) := by decide +kernel
theorem dX9_row_20 : decode cX9_row 20 = .ok (.iload_n 3, 1) := by decide +kernel
theorem dX9_row_21 : decode cX9_row 21 = .ok (.bipush 40, 2) := by decide +kernel
theorem dX9_row_23 : decode cX9_row 23 = .ok (.if_icmp .le 10, 3) := by decide +kernel
theorem dX9_row_26 : decode cX9_row 26 = .ok (.aload_n 0, 1) := by decide +kernel
theorem dX9_row_27 : decode cX9_row 27 = .ok (.bipush (-2), 2) := by decide +kernel
theorem dX9_row_29 : decode cX9_row 29 = .ok (.invokevirtual 79, 3) := by decide +kernel
theorem dX9_row_32 : decode cX9_row 32 = .ok (.ireturn, 1) := by decide +kernel
theorem dX9_row_33 : decode cX9_row 33 = .ok (.aload_n 0, 1) := by decide +kernel
theorem dX9_row_34 : decode cX9_row 34 = .ok (.getfield 66, 3) := by decide +kernel
theorem dX9_row_37 : decode cX9_row 37 = .ok (.iload_n 1, 1) := by decide +kernel
theorem dX9_row_38 : decode cX9_row 38 = .ok (.aaload, 1) := by decide +kernel
theorem dX9_row_39 : decode cX9_row 39 = .ok (.iload_n 2, 1) := by decide +kernel
theorem dX9_row_40 : decode cX9_row 40 = .ok (.iload_n 3, 1) := by decide +kernel
theorem dX9_row_41 : decode cX9_row 41 = .ok (.invokevirtual 83, 3) := by decide +kernel
theorem dX9_row_44 : decode cX9_row 44 = .ok (.iconst 1, 1) := by decide +kernel
theorem dX9_row_45 : decode cX9_row 45 = .ok (.ireturn, 1) := by decide +kernel
theorem dX9_set_0 : decode cX9_set 0 = .ok (.iload_n 1, 1) := by decide +kernel
theorem dX9_set_1 : decode cX9_set 1 = .ok (.invokestatic 75, 3) := by decide +kernel
theorem dX9_set_4 : decode cX9_set 4 = .ok (.ifCond .ne 10, 3) := by decide +kernel
theorem dX9_set_7 : decode cX9_set 7 = .ok (.aload_n 0, 1) := by decide +kernel
theorem dX9_set_8 : decode cX9_set 8 = .ok (.bipush (-2), 2) := by decide +kernel
theorem dX9_set_10 : decode cX9_set 10 = .ok (.invokevirtual 79, 3) := by decide +kernel
theorem dX9_set_13 : decode cX9_set 13 = .ok (.ireturn, 1) := by decide +kernel
theorem dX9_set_14 : decode cX9_set 14 = .ok (.aload_n 0, 1) := by decide +kernel
theorem dX9_set_15 : decode cX9_set 15 = .ok (.getfield 66, 3) := by decide +kernel
theorem dX9_set_18 : decode cX9_set 18 = .ok (.iload_n 1, 1) := by decide +kernel
theorem dX9_set_19 : decode cX9_set 19 = .ok (.aaload, 1) := by decide +kernel
theorem dX9_set_20 : decode cX9_set 20 = .ok (.astore 5, 2) := by decide +kernel
theorem dX9_set_22 : decode cX9_set 22 = .ok (.aload 5, 2) := by decide +kernel
theorem dX9_set_24 : decode cX9_set 24 = .ok (.invokevirtual 87, 3) := by decide +kernel
theorem dX9_set_27 : decode cX9_set 27 = .ok (.ifCond .ne 23, 3) := by decide +kernel
theorem dX9_set_30 : decode cX9_set 30 = .ok (.aload_n 0, 1) := by decide +kernel
theorem dX9_set_31 : decode cX9_set 31 = .ok (.aload 5, 2) := by decide +kernel
theorem dX9_set_33 : decode cX9_set 33 = .ok (.invokevirtual 91, 3) := by decide +kernel
theorem dX9_set_36 : decode cX9_set 36 = .ok (.ifCond .eq 8, 3) := by decide +kernel
theorem dX9_set_39 : decode cX9_set 39 = .ok (.bipush (-4), 2) := by decide +kernel
theorem dX9_set_41 : decode cX9_set 41 = .ok (.goto 5, 3) := by decide +kernel
theorem dX9_set_44 : decode cX9_set 44 = .ok (.bipush (-3), 2) := by decide +kernel
theorem dX9_set_46 : decode cX9_set 46 = .ok (.invokevirtual 79, 3) := by decide +kernel
theorem dX9_set_49 : decode cX9_set 49 = .ok (.ireturn, 1) := by decide +kernel
theorem dX9_set_50 : decode cX9_set 50 = .ok (.iload_n 2, 1) := by decide +kernel
theorem dX9_set_51 : decode cX9_set 51 = .ok (.ifCond .lt 12, 3) := by decide +kernel
theorem dX9_set_54 : decode cX9_set 54 = .ok (.iload_n 2, 1) := by decide +kernel
theorem dX9_set_55 : decode cX9_set 55 = .ok (.aload 5, 2) := by decide +kernel
theorem dX9_set_57 : decode cX9_set 57 = .ok (.getfield 94, 3) := by decide +kernel
theorem dX9_set_60 : decode cX9_set 60 = .ok (.if_icmp .lt 10, 3) := by decide +kernel
theorem dX9_set_63 : decode cX9_set 63 = .ok (.aload_n 0, 1) := by decide +kernel
theorem dX9_set_64 : decode cX9_set 64 = .ok (.bipush (-2), 2) := by decide +kernel
theorem dX9_set_66 : decode cX9_set 66 = .ok (.invokevirtual 79, 3) := by decide +kernel
theorem dX9_set_69 : decode cX9_set 69 = .ok (.ireturn, 1) := by decide +kernel
theorem dX9_set_70 : decode cX9_set 70 = .ok (.aload 5, 2) := by decide +kernel
theorem dX9_set_72 : decode cX9_set 72 = .ok (.iload_n 2, 1) := by decide +kernel
theorem dX9_set_73 : decode cX9_set 73 = .ok (.lload_n 3, 1) := by decide +kernel
theorem dX9_set_74 : decode cX9_set 74 = .ok (.invokevirtual 98, 3) := by decide +kernel
theorem dX9_set_77 : decode cX9_set 77 = .ok (.iconst 1, 1) := by decide +kernel
theorem dX9_set_78 : decode cX9_set 78 = .ok (.ireturn, 1) := by decide +kernel
theorem dX9_copy_0 : decode cX9_copy 0 = .ok (.iload_n 1, 1) := by decide +kernel
theorem dX9_copy_1 : decode cX9_copy 1 = .ok (.invokestatic 75, 3) := by decide +kernel
theorem dX9_copy_4 : decode cX9_copy 4 = .ok (.ifCond .eq 10, 3) := by decide +kernel
theorem dX9_copy_7 : decode cX9_copy 7 = .ok (.iload_n 2, 1) := by decide +kernel
theorem dX9_copy_8 : decode cX9_copy 8 = .ok (.invokestatic 75, 3) := by decide +kernel
theorem dX9_copy_11 : decode cX9_copy 11 = .ok (.ifCond .ne 10, 3) := by decide +kernel
theorem dX9_copy_14 : decode cX9_copy 14 = .ok (.aload_n 0, 1) := by decide +kernel
theorem dX9_copy_15 : decode cX9_copy 15 = .ok (.bipush (-2), 2) := by decide +kernel
theorem dX9_copy_17 : decode cX9_copy 17 = .ok (.invokevirtual 79, 3) := by decide +kernel
theorem dX9_copy_20 : decode cX9_copy 20 = .ok (.ireturn, 1) := by decide +kernel
theorem dX9_copy_21 : decode cX9_copy 21 = .ok (.aload_n 0, 1) := by decide +kernel
theorem dX9_copy_22 : decode cX9_copy 22 = .ok (.getfield 66, 3) := by decide +kernel
theorem dX9_copy_25 : decode cX9_copy 25 = .ok (.iload_n 1, 1) := by decide +kernel
theorem dX9_copy_26 : decode cX9_copy 26 = .ok (.aaload, 1) := by decide +kernel
theorem dX9_copy_27 : decode cX9_copy 27 = .ok (.astore 6, 2) := by decide +kernel
theorem dX9_copy_29 : decode cX9_copy 29 = .ok (.aload_n 0, 1) := by decide +kernel
theorem dX9_copy_30 : decode cX9_copy 30 = .ok (.getfield 66, 3) := by decide +kernel
theorem dX9_copy_33 : decode cX9_copy 33 = .ok (.iload_n 2, 1) := by decide +kernel
theorem dX9_copy_34 : decode cX9_copy 34 = .ok (.aaload, 1) := by decide +kernel
theorem dX9_copy_35 : decode cX9_copy 35 = .ok (.astore 7, 2) := by decide +kernel
theorem dX9_copy_37 : decode cX9_copy 37 = .ok (.aload 6, 2) := by decide +kernel
theorem dX9_copy_39 : decode cX9_copy 39 = .ok (.invokevirtual 102, 3) := by decide +kernel
theorem dX9_copy_42 : decode cX9_copy 42 = .ok (.ifCond .ne 11, 3) := by decide +kernel
theorem dX9_copy_45 : decode cX9_copy 45 = .ok (.aload 7, 2) := by decide +kernel
theorem dX9_copy_47 : decode cX9_copy 47 = .ok (.invokevirtual 102, 3) := by decide +kernel
theorem dX9_copy_50 : decode cX9_copy 50 = .ok (.ifCond .eq 10, 3) := by decide +kernel
theorem dX9_copy_53 : decode cX9_copy 53 = .ok (.aload_n 0, 1) := by decide +kernel
theorem dX9_copy_54 : decode cX9_copy 54 = .ok (.bipush (-3), 2) := by decide +kernel
theorem dX9_copy_56 : decode cX9_copy 56 = .ok (.invokevirtual 79, 3) := by decide +kernel
theorem dX9_copy_59 : decode cX9_copy 59 = .ok (.ireturn, 1) := by decide +kernel
theorem dX9_copy_60 : decode cX9_copy 60 = .ok (.aload 6, 2) := by decide +kernel
theorem dX9_copy_62 : decode cX9_copy 62 = .ok (.invokevirtual 91, 3) := by decide +kernel
theorem dX9_copy_65 : decode cX9_copy 65 = .ok (.ifCond .ne 11, 3) := by decide +kernel
theorem dX9_copy_68 : decode cX9_copy 68 = .ok (.aload 7, 2) := by decide +kernel
theorem dX9_copy_70 : decode cX9_copy 70 = .ok (.invokevirtual 91, 3) := by decide +kernel
theorem dX9_copy_73 : decode cX9_copy 73 = .ok (.ifCond .eq 10, 3) := by decide +kernel
theorem dX9_copy_76 : decode cX9_copy 76 = .ok (.aload_n 0, 1) := by decide +kernel
theorem dX9_copy_77 : decode cX9_copy 77 = .ok (.bipush (-4), 2) := by decide +kernel
theorem dX9_copy_79 : decode cX9_copy 79 = .ok (.invokevirtual 79, 3) := by decide +kernel
theorem dX9_copy_82 : decode cX9_copy 82 = .ok (.ireturn, 1) := by decide +kernel
theorem dX9_copy_83 : decode cX9_copy 83 = .ok (.aload 6, 2) := by decide +kernel
theorem dX9_copy_85 : decode cX9_copy 85 = .ok (.getfield 105, 3) := by decide +kernel
theorem dX9_copy_88 : decode cX9_copy 88 = .ok (.aload 7, 2) := by decide +kernel
theorem dX9_copy_90 : decode cX9_copy 90 = .ok (.getfield 105, 3) := by decide +kernel
theorem dX9_copy_93 : decode cX9_copy 93 = .ok (.if_icmp .eq 10, 3) := by decide +kernel
theorem dX9_copy_96 : decode cX9_copy 96 = .ok (.aload_n 0, 1) := by decide +kernel
theorem dX9_copy_97 : decode cX9_copy 97 = .ok (.bipush (-3), 2) := by decide +kernel
theorem dX9_copy_99 : decode cX9_copy 99 = .ok (.invokevirtual 79, 3) := by decide +kernel
theorem dX9_copy_102 : decode cX9_copy 102 = .ok (.ireturn, 1) := by decide +kernel
theorem dX9_copy_103 : decode cX9_copy 103 = .ok (.aload 6, 2) := by decide +kernel
theorem dX9_copy_105 : decode cX9_copy 105 = .ok (.iload_n 3, 1) := by decide +kernel
theorem dX9_copy_106 : decode cX9_copy 106 = .ok (.iload 5, 2) := by decide +kernel
theorem dX9_copy_108 : decode cX9_copy 108 = .ok (.invokevirtual 108, 3) := by decide +kernel
theorem dX9_copy_111 : decode cX9_copy 111 = .ok (.ifCond .eq 15, 3) := by decide +kernel
theorem dX9_copy_114 : decode cX9_copy 114 = .ok (.aload 7, 2) := by decide +kernel
theorem dX9_copy_116 : decode cX9_copy 116 = .ok (.iload 4, 2) := by decide +kernel
theorem dX9_copy_118 : decode cX9_copy 118 = .ok (.iload 5, 2) := by decide +kernel
theorem dX9_copy_120 : decode cX9_copy 120 = .ok (.invokevirtual 108, 3) := by decide +kernel
theorem dX9_copy_123 : decode cX9_copy 123 = .ok (.ifCond .ne 10, 3) := by decide +kernel
theorem dX9_copy_126 : decode cX9_copy 126 = .ok (.aload_n 0, 1) := by decide +kernel
theorem dX9_copy_127 : decode cX9_copy 127 = .ok (.bipush (-2), 2) := by decide +kernel
theorem dX9_copy_129 : decode cX9_copy 129 = .ok (.invokevirtual 79, 3) := by decide +kernel
theorem dX9_copy_132 : decode cX9_copy 132 = .ok (.ireturn, 1) := by decide +kernel
theorem dX9_copy_133 : decode cX9_copy 133 = .ok (.aload 6, 2) := by decide +kernel
theorem dX9_copy_135 : decode cX9_copy 135 = .ok (.getfield 112, 3) := by decide +kernel
theorem dX9_copy_138 : decode cX9_copy 138 = .ok (.iload_n 3, 1) := by decide +kernel
theorem dX9_copy_139 : decode cX9_copy 139 = .ok (.aload 7, 2) := by decide +kernel
theorem dX9_copy_141 : decode cX9_copy 141 = .ok (.getfield 112, 3) := by decide +kernel
theorem dX9_copy_144 : decode cX9_copy 144 = .ok (.iload 4, 2) := by decide +kernel
theorem dX9_copy_146 : decode cX9_copy 146 = .ok (.iload 5, 2) := by decide +kernel
theorem dX9_copy_148 : decode cX9_copy 148 = .ok (.invokestatic 116, 3) := by decide +kernel
theorem dX9_copy_151 : decode cX9_copy 151 = .ok (.iload 5, 2) := by decide +kernel
theorem dX9_copy_153 : decode cX9_copy 153 = .ok (.ireturn, 1) := by decide +kernel
theorem dX9_element_0 : decode cX9_element 0 = .ok (.iload_n 1, 1) := by decide +kernel
theorem dX9_element_1 : decode cX9_element 1 = .ok (.invokestatic 75, 3) := by decide +kernel
theorem dX9_element_4 : decode cX9_element 4 = .ok (.ifCond .ne 5, 3) := by decide +kernel
theorem dX9_element_7 : decode cX9_element 7 = .ok (.lconst 0, 1) := by decide +kernel
theorem dX9_element_8 : decode cX9_element 8 = .ok (.lreturn, 1) := by decide +kernel
theorem dX9_element_9 : decode cX9_element 9 = .ok (.aload_n 0, 1) := by decide +kernel
theorem dX9_element_10 : decode cX9_element 10 = .ok (.getfield 66, 3) := by decide +kernel
theorem dX9_element_13 : decode cX9_element 13 = .ok (.iload_n 1, 1) := by decide +kernel
theorem dX9_element_14 : decode cX9_element 14 = .ok (.aaload, 1) := by decide +kernel
theorem dX9_element_15 : decode cX9_element 15 = .ok (.iload_n 2, 1) := by decide +kernel
theorem dX9_element_16 : decode cX9_element 16 = .ok (.invokevirtual 122, 3) := by decide +kernel
theorem dX9_element_19 : decode cX9_element 19 = .ok (.lreturn, 1) := by decide +kernel
theorem dX9_holds_0 : decode cX9_holds 0 = .ok (.iload_n 1, 1) := by decide +kernel
theorem dX9_holds_1 : decode cX9_holds 1 = .ok (.invokestatic 75, 3) := by decide +kernel
theorem dX9_holds_4 : decode cX9_holds 4 = .ok (.ifCond .eq 15, 3) := by decide +kernel
theorem dX9_holds_7 : decode cX9_holds 7 = .ok (.aload_n 0, 1) := by decide +kernel
theorem dX9_holds_8 : decode cX9_holds 8 = .ok (.getfield 66, 3) := by decide +kernel
theorem dX9_holds_11 : decode cX9_holds 11 = .ok (.iload_n 1, 1) := by decide +kernel
theorem dX9_holds_12 : decode cX9_holds 12 = .ok (.aaload, 1) := by decide +kernel
theorem dX9_holds_13 : decode cX9_holds 13 = .ok (.getfield 105, 3) := by decide +kernel
theorem dX9_holds_16 : decode cX9_holds 16 = .ok (.goto 4, 3) := by decide +kernel
theorem dX9_holds_19 : decode cX9_holds 19 = .ok (.iconst (-1), 1) := by decide +kernel
theorem dX9_holds_20 : decode cX9_holds 20 = .ok (.ireturn, 1) := by decide +kernel
theorem dX9_show_0 : decode cX9_show 0 = .ok (.iload_n 1, 1) := by decide +kernel
theorem dX9_show_1 : decode cX9_show 1 = .ok (.invokestatic 75, 3) := by decide +kernel
theorem dX9_show_4 : decode cX9_show 4 = .ok (.ifCond .eq 16, 3) := by decide +kernel
theorem dX9_show_7 : decode cX9_show 7 = .ok (.iload_n 2, 1) := by decide +kernel
theorem dX9_show_8 : decode cX9_show 8 = .ok (.iconst (-1), 1) := by decide +kernel
theorem dX9_show_9 : decode cX9_show 9 = .ok (.if_icmp .eq 18, 3) := by decide +kernel
theorem dX9_show_12 : decode cX9_show 12 = .ok (.aload_n 0, 1) := by decide +kernel
theorem dX9_show_13 : decode cX9_show 13 = .ok (.iload_n 2, 1) := by decide +kernel
theorem dX9_show_14 : decode cX9_show 14 = .ok (.invokevirtual 126, 3) := by decide +kernel
theorem dX9_show_17 : decode cX9_show 17 = .ok (.ifCond .ne 10, 3) := by decide +kernel
theorem dX9_show_20 : decode cX9_show 20 = .ok (.aload_n 0, 1) := by decide +kernel
theorem dX9_show_21 : decode cX9_show 21 = .ok (.bipush (-2), 2) := by decide +kernel
theorem dX9_show_23 : decode cX9_show 23 = .ok (.invokevirtual 79, 3) := by decide +kernel
theorem dX9_show_26 : decode cX9_show 26 = .ok (.ireturn, 1) := by decide +kernel
theorem dX9_show_27 : decode cX9_show 27 = .ok (.iload_n 2, 1) := by decide +kernel
theorem dX9_show_28 : decode cX9_show 28 = .ok (.iconst (-1), 1) := by decide +kernel
theorem dX9_show_29 : decode cX9_show 29 = .ok (.if_icmp .ne 15, 3) := by decide +kernel
theorem dX9_show_32 : decode cX9_show 32 = .ok (.aload_n 0, 1) := by decide +kernel
theorem dX9_show_33 : decode cX9_show 33 = .ok (.getfield 66, 3) := by decide +kernel
theorem dX9_show_36 : decode cX9_show 36 = .ok (.iload_n 1, 1) := by decide +kernel
theorem dX9_show_37 : decode cX9_show 37 = .ok (.aaload, 1) := by decide +kernel
theorem dX9_show_38 : decode cX9_show 38 = .ok (.invokevirtual 128, 3) := by decide +kernel
theorem dX9_show_41 : decode cX9_show 41 = .ok (.goto 13, 3) := by decide +kernel
theorem dX9_show_44 : decode cX9_show 44 = .ok (.aload_n 0, 1) := by decide +kernel
theorem dX9_show_45 : decode cX9_show 45 = .ok (.getfield 66, 3) := by decide +kernel
theorem dX9_show_48 : decode cX9_show 48 = .ok (.iload_n 1, 1) := by decide +kernel
theorem dX9_show_49 : decode cX9_show 49 = .ok (.aaload, 1) := by decide +kernel
theorem dX9_show_50 : decode cX9_show 50 = .ok (.iload_n 2, 1) := by decide +kernel
theorem dX9_show_51 : decode cX9_show 51 = .ok (.invokevirtual 131, 3) := by decide +kernel
theorem dX9_show_54 : decode cX9_show 54 = .ok (.iconst 1, 1) := by decide +kernel
theorem dX9_show_55 : decode cX9_show 55 = .ok (.ireturn, 1) := by decide +kernel
theorem dX9_says_0 : decode cX9_says 0 = .ok (.iload_n 1, 1) := by decide +kernel
theorem dX9_says_1 : decode cX9_says 1 = .ok (.invokestatic 75, 3) := by decide +kernel
theorem dX9_says_4 : decode cX9_says 4 = .ok (.ifCond .eq 13, 3) := by decide +kernel
theorem dX9_says_7 : decode cX9_says 7 = .ok (.iload_n 2, 1) := by decide +kernel
theorem dX9_says_8 : decode cX9_says 8 = .ok (.ifCond .lt 9, 3) := by decide +kernel
theorem dX9_says_11 : decode cX9_says 11 = .ok (.iload_n 2, 1) := by decide +kernel
theorem dX9_says_12 : decode cX9_says 12 = .ok (.bipush 6, 2) := by decide +kernel
theorem dX9_says_14 : decode cX9_says 14 = .ok (.if_icmp .lt 10, 3) := by decide +kernel
theorem dX9_says_17 : decode cX9_says 17 = .ok (.aload_n 0, 1) := by decide +kernel
theorem dX9_says_18 : decode cX9_says 18 = .ok (.bipush (-2), 2) := by decide +kernel
theorem dX9_says_20 : decode cX9_says 20 = .ok (.invokevirtual 79, 3) := by decide +kernel
theorem dX9_says_23 : decode cX9_says 23 = .ok (.ireturn, 1) := by decide +kernel
theorem dX9_says_24 : decode cX9_says 24 = .ok (.aload_n 0, 1) := by decide +kernel
theorem dX9_says_25 : decode cX9_says 25 = .ok (.getfield 66, 3) := by decide +kernel
theorem dX9_says_28 : decode cX9_says 28 = .ok (.iload_n 1, 1) := by decide +kernel
theorem dX9_says_29 : decode cX9_says 29 = .ok (.aaload, 1) := by decide +kernel
theorem dX9_says_30 : decode cX9_says 30 = .ok (.astore_n 3, 1) := by decide +kernel
theorem dX9_says_31 : decode cX9_says 31 = .ok (.aload_n 3, 1) := by decide +kernel
theorem dX9_says_32 : decode cX9_says 32 = .ok (.invokevirtual 91, 3) := by decide +kernel
theorem dX9_says_35 : decode cX9_says 35 = .ok (.ifCond .eq 10, 3) := by decide +kernel
theorem dX9_says_38 : decode cX9_says 38 = .ok (.aload_n 0, 1) := by decide +kernel
theorem dX9_says_39 : decode cX9_says 39 = .ok (.bipush (-4), 2) := by decide +kernel
theorem dX9_says_41 : decode cX9_says 41 = .ok (.invokevirtual 79, 3) := by decide +kernel
theorem dX9_says_44 : decode cX9_says 44 = .ok (.ireturn, 1) := by decide +kernel
theorem dX9_says_45 : decode cX9_says 45 = .ok (.aload_n 3, 1) := by decide +kernel
theorem dX9_says_46 : decode cX9_says 46 = .ok (.getfield 105, 3) := by decide +kernel
theorem dX9_says_49 : decode cX9_says 49 = .ok (.bipush 10, 2) := by decide +kernel
theorem dX9_says_51 : decode cX9_says 51 = .ok (.isub, 1) := by decide +kernel
theorem dX9_says_52 : decode cX9_says 52 = .ok (.istore 4, 2) := by decide +kernel
theorem dX9_says_54 : decode cX9_says 54 = .ok (.aload_n 0, 1) := by decide +kernel
theorem dX9_says_55 : decode cX9_says 55 = .ok (.iload 4, 2) := by decide +kernel
theorem dX9_says_57 : decode cX9_says 57 = .ok (.invokevirtual 126, 3) := by decide +kernel
theorem dX9_says_60 : decode cX9_says 60 = .ok (.ifCond .eq 23, 3) := by decide +kernel
theorem dX9_says_63 : decode cX9_says 63 = .ok (.aload_n 0, 1) := by decide +kernel
theorem dX9_says_64 : decode cX9_says 64 = .ok (.getfield 12, 3) := by decide +kernel
theorem dX9_says_67 : decode cX9_says 67 = .ok (.getfield 135, 3) := by decide +kernel
theorem dX9_says_70 : decode cX9_says 70 = .ok (.iload 4, 2) := by decide +kernel
theorem dX9_says_72 : decode cX9_says 72 = .ok (.aaload, 1) := by decide +kernel
theorem dX9_says_73 : decode cX9_says 73 = .ok (.getfield 139, 3) := by decide +kernel
theorem dX9_says_76 : decode cX9_says 76 = .ok (.iload_n 2, 1) := by decide +kernel
theorem dX9_says_77 : decode cX9_says 77 = .ok (.invokestatic 144, 3) := by decide +kernel
theorem dX9_says_80 : decode cX9_says 80 = .ok (.ifCond .ne 10, 3) := by decide +kernel
theorem dX9_says_83 : decode cX9_says 83 = .ok (.aload_n 0, 1) := by decide +kernel
theorem dX9_says_84 : decode cX9_says 84 = .ok (.bipush (-3), 2) := by decide +kernel
theorem dX9_says_86 : decode cX9_says 86 = .ok (.invokevirtual 79, 3) := by decide +kernel
theorem dX9_says_89 : decode cX9_says 89 = .ok (.ireturn, 1) := by decide +kernel
theorem dX9_says_90 : decode cX9_says 90 = .ok (.aload_n 0, 1) := by decide +kernel
theorem dX9_says_91 : decode cX9_says 91 = .ok (.getfield 12, 3) := by decide +kernel
theorem dX9_says_94 : decode cX9_says 94 = .ok (.getfield 135, 3) := by decide +kernel
theorem dX9_says_97 : decode cX9_says 97 = .ok (.iload 4, 2) := by decide +kernel
theorem dX9_says_99 : decode cX9_says 99 = .ok (.aaload, 1) := by decide +kernel
theorem dX9_says_100 : decode cX9_says 100 = .ok (.astore 5, 2) := by decide +kernel
theorem dX9_says_102 : decode cX9_says 102 = .ok (.iload_n 2, 1) := by decide +kernel
theorem dX9_says_103 : decode cX9_says 103 = .ok (.ifCond .ne 11, 3) := by decide +kernel
theorem dX9_says_106 : decode cX9_says 106 = .ok (.aload 5, 2) := by decide +kernel
theorem dX9_says_108 : decode cX9_says 108 = .ok (.getfield 147, 3) := by decide +kernel
theorem dX9_says_111 : decode cX9_says 111 = .ok (.goto 19, 3) := by decide +kernel
theorem dX9_says_114 : decode cX9_says 114 = .ok (.aload_n 0, 1) := by decide +kernel
theorem dX9_says_115 : decode cX9_says 115 = .ok (.getfield 12, 3) := by decide +kernel
theorem dX9_says_118 : decode cX9_says 118 = .ok (.aload 5, 2) := by decide +kernel
theorem dX9_says_120 : decode cX9_says 120 = .ok (.aload_n 0, 1) := by decide +kernel
theorem dX9_says_121 : decode cX9_says 121 = .ok (.getfield 12, 3) := by decide +kernel
theorem dX9_says_124 : decode cX9_says 124 = .ok (.getfield 150, 3) := by decide +kernel
theorem dX9_says_127 : decode cX9_says 127 = .ok (.invokevirtual 153, 3) := by decide +kernel
theorem dX9_says_130 : decode cX9_says 130 = .ok (.ireturn, 1) := by decide +kernel
theorem dX9_place_0 : decode cX9_place 0 = .ok (.iload_n 1, 1) := by decide +kernel
theorem dX9_place_1 : decode cX9_place 1 = .ok (.invokestatic 157, 3) := by decide +kernel
theorem dX9_place_4 : decode cX9_place 4 = .ok (.ifCond .eq 10, 3) := by decide +kernel
theorem dX9_place_7 : decode cX9_place 7 = .ok (.iload_n 2, 1) := by decide +kernel
theorem dX9_place_8 : decode cX9_place 8 = .ok (.invokestatic 160, 3) := by decide +kernel
theorem dX9_place_11 : decode cX9_place 11 = .ok (.ifCond .ne 10, 3) := by decide +kernel
theorem dX9_place_14 : decode cX9_place 14 = .ok (.aload_n 0, 1) := by decide +kernel
theorem dX9_place_15 : decode cX9_place 15 = .ok (.bipush (-2), 2) := by decide +kernel
theorem dX9_place_17 : decode cX9_place 17 = .ok (.invokevirtual 79, 3) := by decide +kernel
theorem dX9_place_20 : decode cX9_place 20 = .ok (.ireturn, 1) := by decide +kernel
theorem dX9_place_21 : decode cX9_place 21 = .ok (.aload_n 0, 1) := by decide +kernel
theorem dX9_place_22 : decode cX9_place 22 = .ok (.getfield 12, 3) := by decide +kernel
theorem dX9_place_25 : decode cX9_place 25 = .ok (.getfield 163, 3) := by decide +kernel
theorem dX9_place_28 : decode cX9_place 28 = .ok (.iload_n 1, 1) := by decide +kernel
theorem dX9_place_29 : decode cX9_place 29 = .ok (.iaload, 1) := by decide +kernel
theorem dX9_place_30 : decode cX9_place 30 = .ok (.istore_n 3, 1) := by decide +kernel
theorem dX9_place_31 : decode cX9_place 31 = .ok (.aload_n 0, 1) := by decide +kernel
theorem dX9_place_32 : decode cX9_place 32 = .ok (.getfield 12, 3) := by decide +kernel
theorem dX9_place_35 : decode cX9_place 35 = .ok (.iload_n 1, 1) := by decide +kernel
theorem dX9_place_36 : decode cX9_place 36 = .ok (.iload_n 2, 1) := by decide +kernel
theorem dX9_place_37 : decode cX9_place 37 = .ok (.invokevirtual 166, 3) := by decide +kernel
theorem dX9_place_40 : decode cX9_place 40 = .ok (.iload_n 3, 1) := by decide +kernel
theorem dX9_place_41 : decode cX9_place 41 = .ok (.ireturn, 1) := by decide +kernel
theorem dX9_looker_0 : decode cX9_looker 0 = .ok (.iload_n 1, 1) := by decide +kernel
theorem dX9_looker_1 : decode cX9_looker 1 = .ok (.ifCond .lt 23, 3) := by decide +kernel
theorem dX9_looker_4 : decode cX9_looker 4 = .ok (.iload_n 1, 1) := by decide +kernel
theorem dX9_looker_5 : decode cX9_looker 5 = .ok (.bipush 6, 2) := by decide +kernel
theorem dX9_looker_7 : decode cX9_looker 7 = .ok (.if_icmp .ge 17, 3) := by decide +kernel
theorem dX9_looker_10 : decode cX9_looker 10 = .ok (.iload_n 2, 1) := by decide +kernel
theorem dX9_looker_11 : decode cX9_looker 11 = .ok (.invokestatic 168, 3) := by decide +kernel
theorem dX9_looker_14 : decode cX9_looker 14 = .ok (.ifCond .eq 10, 3) := by decide +kernel
theorem dX9_looker_17 : decode cX9_looker 17 = .ok (.iload_n 3, 1) := by decide +kernel
theorem dX9_looker_18 : decode cX9_looker 18 = .ok (.invokestatic 171, 3) := by decide +kernel
theorem dX9_looker_21 : decode cX9_looker 21 = .ok (.ifCond .ne 10, 3) := by decide +kernel
theorem dX9_looker_24 : decode cX9_looker 24 = .ok (.aload_n 0, 1) := by decide +kernel
theorem dX9_looker_25 : decode cX9_looker 25 = .ok (.bipush (-2), 2) := by decide +kernel
theorem dX9_looker_27 : decode cX9_looker 27 = .ok (.invokevirtual 79, 3) := by decide +kernel
theorem dX9_looker_30 : decode cX9_looker 30 = .ok (.ireturn, 1) := by decide +kernel
theorem dX9_looker_31 : decode cX9_looker 31 = .ok (.aload_n 0, 1) := by decide +kernel
theorem dX9_looker_32 : decode cX9_looker 32 = .ok (.getfield 12, 3) := by decide +kernel
theorem dX9_looker_35 : decode cX9_looker 35 = .ok (.invokevirtual 174, 3) := by decide +kernel
theorem dX9_looker_38 : decode cX9_looker 38 = .ok (.ifCond .eq 10, 3) := by decide +kernel
theorem dX9_looker_41 : decode cX9_looker 41 = .ok (.aload_n 0, 1) := by decide +kernel
theorem dX9_looker_42 : decode cX9_looker 42 = .ok (.bipush (-6), 2) := by decide +kernel
theorem dX9_looker_44 : decode cX9_looker 44 = .ok (.invokevirtual 79, 3) := by decide +kernel
theorem dX9_looker_47 : decode cX9_looker 47 = .ok (.ireturn, 1) := by decide +kernel
theorem dX9_looker_48 : decode cX9_looker 48 = .ok (.aload_n 0, 1) := by decide +kernel
theorem dX9_looker_49 : decode cX9_looker 49 = .ok (.getfield 12, 3) := by decide +kernel
theorem dX9_looker_52 : decode cX9_looker 52 = .ok (.iload_n 1, 1) := by decide +kernel
theorem dX9_looker_53 : decode cX9_looker 53 = .ok (.iload_n 2, 1) := by decide +kernel
theorem dX9_looker_54 : decode cX9_looker 54 = .ok (.iload_n 3, 1) := by decide +kernel
theorem dX9_looker_55 : decode cX9_looker 55 = .ok (.invokevirtual 177, 3) := by decide +kernel
theorem dX9_looker_58 : decode cX9_looker 58 = .ok (.ireturn, 1) := by decide +kernel
theorem dX9_likes_0 : decode cX9_likes 0 = .ok (.aload_n 0, 1) := by decide +kernel
theorem dX9_likes_1 : decode cX9_likes 1 = .ok (.iload_n 1, 1) := by decide +kernel
theorem dX9_likes_2 : decode cX9_likes 2 = .ok (.invokevirtual 126, 3) := by decide +kernel
theorem dX9_likes_5 : decode cX9_likes 5 = .ok (.ifCond .eq 10, 3) := by decide +kernel
theorem dX9_likes_8 : decode cX9_likes 8 = .ok (.iload_n 2, 1) := by decide +kernel
theorem dX9_likes_9 : decode cX9_likes 9 = .ok (.invokestatic 168, 3) := by decide +kernel
theorem dX9_likes_12 : decode cX9_likes 12 = .ok (.ifCond .ne 10, 3) := by decide +kernel
theorem dX9_likes_15 : decode cX9_likes 15 = .ok (.aload_n 0, 1) := by decide +kernel
theorem dX9_likes_16 : decode cX9_likes 16 = .ok (.bipush (-2), 2) := by decide +kernel
theorem dX9_likes_18 : decode cX9_likes 18 = .ok (.invokevirtual 79, 3) := by decide +kernel
theorem dX9_likes_21 : decode cX9_likes 21 = .ok (.ireturn, 1) := by decide +kernel
theorem dX9_likes_22 : decode cX9_likes 22 = .ok (.aload_n 0, 1) := by decide +kernel
theorem dX9_likes_23 : decode cX9_likes 23 = .ok (.getfield 12, 3) := by decide +kernel
theorem dX9_likes_26 : decode cX9_likes 26 = .ok (.getfield 135, 3) := by decide +kernel
theorem dX9_likes_29 : decode cX9_likes 29 = .ok (.iload_n 1, 1) := by decide +kernel
theorem dX9_likes_30 : decode cX9_likes 30 = .ok (.aaload, 1) := by decide +kernel
theorem dX9_likes_31 : decode cX9_likes 31 = .ok (.astore 4, 2) := by decide +kernel
theorem dX9_likes_33 : decode cX9_likes 33 = .ok (.aload 4, 2) := by decide +kernel
theorem dX9_likes_35 : decode cX9_likes 35 = .ok (.getfield 181, 3) := by decide +kernel
theorem dX9_likes_38 : decode cX9_likes 38 = .ok (.iload_n 2, 1) := by decide +kernel
theorem dX9_likes_39 : decode cX9_likes 39 = .ok (.ishr, 1) := by decide +kernel
theorem dX9_likes_40 : decode cX9_likes 40 = .ok (.iconst 1, 1) := by decide +kernel
theorem dX9_likes_41 : decode cX9_likes 41 = .ok (.iand, 1) := by decide +kernel
theorem dX9_likes_42 : decode cX9_likes 42 = .ok (.istore 5, 2) := by decide +kernel
theorem dX9_likes_44 : decode cX9_likes 44 = .ok (.aload 4, 2) := by decide +kernel
theorem dX9_likes_46 : decode cX9_likes 46 = .ok (.iload_n 2, 1) := by decide +kernel
theorem dX9_likes_47 : decode cX9_likes 47 = .ok (.iload_n 3, 1) := by decide +kernel
theorem dX9_likes_48 : decode cX9_likes 48 = .ok (.invokevirtual 184, 3) := by decide +kernel
theorem dX9_likes_51 : decode cX9_likes 51 = .ok (.iload 5, 2) := by decide +kernel
theorem dX9_likes_53 : decode cX9_likes 53 = .ok (.ireturn, 1) := by decide +kernel
theorem dX9_tell_0 : decode cX9_tell 0 = .ok (.aload_n 0, 1) := by decide +kernel
theorem dX9_tell_1 : decode cX9_tell 1 = .ok (.iload_n 1, 1) := by decide +kernel
theorem dX9_tell_2 : decode cX9_tell 2 = .ok (.invokevirtual 126, 3) := by decide +kernel
theorem dX9_tell_5 : decode cX9_tell 5 = .ok (.ifCond .ne 10, 3) := by decide +kernel
theorem dX9_tell_8 : decode cX9_tell 8 = .ok (.aload_n 0, 1) := by decide +kernel
theorem dX9_tell_9 : decode cX9_tell 9 = .ok (.bipush (-2), 2) := by decide +kernel
theorem dX9_tell_11 : decode cX9_tell 11 = .ok (.invokevirtual 79, 3) := by decide +kernel
theorem dX9_tell_14 : decode cX9_tell 14 = .ok (.ireturn, 1) := by decide +kernel
theorem dX9_tell_15 : decode cX9_tell 15 = .ok (.iload_n 2, 1) := by decide +kernel
theorem dX9_tell_16 : decode cX9_tell 16 = .ok (.tableswitch 49 0 2 #[28, 35, 42], 28) := by decide +kernel
theorem dX9_tell_44 : decode cX9_tell 44 = .ok (.aload_n 0, 1) := by decide +kernel
theorem dX9_tell_45 : decode cX9_tell 45 = .ok (.iload_n 1, 1) := by decide +kernel
theorem dX9_tell_46 : decode cX9_tell 46 = .ok (.iload_n 3, 1) := by decide +kernel
theorem dX9_tell_47 : decode cX9_tell 47 = .ok (.invokevirtual 188, 3) := by decide +kernel
theorem dX9_tell_50 : decode cX9_tell 50 = .ok (.ireturn, 1) := by decide +kernel
theorem dX9_tell_51 : decode cX9_tell 51 = .ok (.aload_n 0, 1) := by decide +kernel
theorem dX9_tell_52 : decode cX9_tell 52 = .ok (.iload_n 1, 1) := by decide +kernel
theorem dX9_tell_53 : decode cX9_tell 53 = .ok (.iload_n 3, 1) := by decide +kernel
theorem dX9_tell_54 : decode cX9_tell 54 = .ok (.invokevirtual 192, 3) := by decide +kernel
theorem dX9_tell_57 : decode cX9_tell 57 = .ok (.ireturn, 1) := by decide +kernel
theorem dX9_tell_58 : decode cX9_tell 58 = .ok (.aload_n 0, 1) := by decide +kernel
theorem dX9_tell_59 : decode cX9_tell 59 = .ok (.iload_n 1, 1) := by decide +kernel
theorem dX9_tell_60 : decode cX9_tell 60 = .ok (.iload_n 3, 1) := by decide +kernel
theorem dX9_tell_61 : decode cX9_tell 61 = .ok (.invokevirtual 195, 3) := by decide +kernel
theorem dX9_tell_64 : decode cX9_tell 64 = .ok (.ireturn, 1) := by decide +kernel
theorem dX9_tell_65 : decode cX9_tell 65 = .ok (.aload_n 0, 1) := by decide +kernel
theorem dX9_tell_66 : decode cX9_tell 66 = .ok (.bipush (-2), 2) := by decide +kernel
theorem dX9_tell_68 : decode cX9_tell 68 = .ok (.invokevirtual 79, 3) := by decide +kernel
theorem dX9_tell_71 : decode cX9_tell 71 = .ok (.ireturn, 1) := by decide +kernel
theorem dX9_tellComes_0 : decode cX9_tellComes 0 = .ok (.iload_n 2, 1) := by decide +kernel
theorem dX9_tellComes_1 : decode cX9_tellComes 1 = .ok (.ifCond .lt 9, 3) := by decide +kernel
theorem dX9_tellComes_4 : decode cX9_tellComes 4 = .ok (.iload_n 2, 1) := by decide +kernel
theorem dX9_tellComes_5 : decode cX9_tellComes 5 = .ok (.bipush 12, 2) := by decide +kernel
theorem dX9_tellComes_7 : decode cX9_tellComes 7 = .ok (.if_icmp .le 10, 3) := by decide +kernel
theorem dX9_tellComes_10 : decode cX9_tellComes 10 = .ok (.aload_n 0, 1) := by decide +kernel
theorem dX9_tellComes_11 : decode cX9_tellComes 11 = .ok (.bipush (-2), 2) := by decide +kernel
theorem dX9_tellComes_13 : decode cX9_tellComes 13 = .ok (.invokevirtual 79, 3) := by decide +kernel
theorem dX9_tellComes_16 : decode cX9_tellComes 16 = .ok (.ireturn, 1) := by decide +kernel
theorem dX9_tellComes_17 : decode cX9_tellComes 17 = .ok (.aload_n 0, 1) := by decide +kernel
theorem dX9_tellComes_18 : decode cX9_tellComes 18 = .ok (.getfield 12, 3) := by decide +kernel
theorem dX9_tellComes_21 : decode cX9_tellComes 21 = .ok (.getfield 135, 3) := by decide +kernel
theorem dX9_tellComes_24 : decode cX9_tellComes 24 = .ok (.iload_n 1, 1) := by decide +kernel
theorem dX9_tellComes_25 : decode cX9_tellComes 25 = .ok (.aaload, 1) := by decide +kernel
theorem dX9_tellComes_26 : decode cX9_tellComes 26 = .ok (.astore_n 3, 1) := by decide +kernel
theorem dX9_tellComes_27 : decode cX9_tellComes 27 = .ok (.aload_n 3, 1) := by decide +kernel
theorem dX9_tellComes_28 : decode cX9_tellComes 28 = .ok (.getfield 198, 3) := by decide +kernel
theorem dX9_tellComes_31 : decode cX9_tellComes 31 = .ok (.istore 4, 2) := by decide +kernel
theorem dX9_tellComes_33 : decode cX9_tellComes 33 = .ok (.aload_n 3, 1) := by decide +kernel
theorem dX9_tellComes_34 : decode cX9_tellComes 34 = .ok (.iload_n 2, 1) := by decide +kernel
theorem dX9_tellComes_35 : decode cX9_tellComes 35 = .ok (.putfield 198, 3) := by decide +kernel
theorem dX9_tellComes_38 : decode cX9_tellComes 38 = .ok (.iload 4, 2) := by decide +kernel
theorem dX9_tellComes_40 : decode cX9_tellComes 40 = .ok (.ireturn, 1) := by decide +kernel
theorem dX9_tellAge_0 : decode cX9_tellAge 0 = .ok (.iload_n 2, 1) := by decide +kernel
theorem dX9_tellAge_1 : decode cX9_tellAge 1 = .ok (.invokestatic 171, 3) := by decide +kernel
theorem dX9_tellAge_4 : decode cX9_tellAge 4 = .ok (.ifCond .ne 10, 3) := by decide +kernel
theorem dX9_tellAge_7 : decode cX9_tellAge 7 = .ok (.aload_n 0, 1) := by decide +kernel
theorem dX9_tellAge_8 : decode cX9_tellAge 8 = .ok (.bipush (-2), 2) := by decide +kernel
theorem dX9_tellAge_10 : decode cX9_tellAge 10 = .ok (.invokevirtual 79, 3) := by decide +kernel
theorem dX9_tellAge_13 : decode cX9_tellAge 13 = .ok (.ireturn, 1) := by decide +kernel
theorem dX9_tellAge_14 : decode cX9_tellAge 14 = .ok (.aload_n 0, 1) := by decide +kernel
theorem dX9_tellAge_15 : decode cX9_tellAge 15 = .ok (.getfield 12, 3) := by decide +kernel
theorem dX9_tellAge_18 : decode cX9_tellAge 18 = .ok (.getfield 135, 3) := by decide +kernel
theorem dX9_tellAge_21 : decode cX9_tellAge 21 = .ok (.iload_n 1, 1) := by decide +kernel
theorem dX9_tellAge_22 : decode cX9_tellAge 22 = .ok (.aaload, 1) := by decide +kernel
theorem dX9_tellAge_23 : decode cX9_tellAge 23 = .ok (.getfield 147, 3) := by decide +kernel
theorem dX9_tellAge_26 : decode cX9_tellAge 26 = .ok (.istore_n 3, 1) := by decide +kernel
theorem dX9_tellAge_27 : decode cX9_tellAge 27 = .ok (.aload_n 0, 1) := by decide +kernel
theorem dX9_tellAge_28 : decode cX9_tellAge 28 = .ok (.getfield 12, 3) := by decide +kernel
theorem dX9_tellAge_31 : decode cX9_tellAge 31 = .ok (.iload_n 1, 1) := by decide +kernel
theorem dX9_tellAge_32 : decode cX9_tellAge 32 = .ok (.iload_n 2, 1) := by decide +kernel
theorem dX9_tellAge_33 : decode cX9_tellAge 33 = .ok (.invokevirtual 201, 3) := by decide +kernel
theorem dX9_tellAge_36 : decode cX9_tellAge 36 = .ok (.iload_n 3, 1) := by decide +kernel
theorem dX9_tellAge_37 : decode cX9_tellAge 37 = .ok (.ireturn, 1) := by decide +kernel
theorem dX9_tellShine_0 : decode cX9_tellShine 0 = .ok (.iload_n 2, 1) := by decide +kernel
theorem dX9_tellShine_1 : decode cX9_tellShine 1 = .ok (.invokestatic 160, 3) := by decide +kernel
theorem dX9_tellShine_4 : decode cX9_tellShine 4 = .ok (.ifCond .ne 10, 3) := by decide +kernel
theorem dX9_tellShine_7 : decode cX9_tellShine 7 = .ok (.aload_n 0, 1) := by decide +kernel
theorem dX9_tellShine_8 : decode cX9_tellShine 8 = .ok (.bipush (-2), 2) := by decide +kernel
theorem dX9_tellShine_10 : decode cX9_tellShine 10 = .ok (.invokevirtual 79, 3) := by decide +kernel
theorem dX9_tellShine_13 : decode cX9_tellShine 13 = .ok (.ireturn, 1) := by decide +kernel
theorem dX9_tellShine_14 : decode cX9_tellShine 14 = .ok (.aload_n 0, 1) := by decide +kernel
theorem dX9_tellShine_15 : decode cX9_tellShine 15 = .ok (.getfield 12, 3) := by decide +kernel
theorem dX9_tellShine_18 : decode cX9_tellShine 18 = .ok (.getfield 135, 3) := by decide +kernel
theorem dX9_tellShine_21 : decode cX9_tellShine 21 = .ok (.iload_n 1, 1) := by decide +kernel
theorem dX9_tellShine_22 : decode cX9_tellShine 22 = .ok (.aaload, 1) := by decide +kernel
theorem dX9_tellShine_23 : decode cX9_tellShine 23 = .ok (.astore_n 3, 1) := by decide +kernel
theorem dX9_tellShine_24 : decode cX9_tellShine 24 = .ok (.aload_n 3, 1) := by decide +kernel
theorem dX9_tellShine_25 : decode cX9_tellShine 25 = .ok (.getfield 204, 3) := by decide +kernel
theorem dX9_tellShine_28 : decode cX9_tellShine 28 = .ok (.istore 4, 2) := by decide +kernel
theorem dX9_tellShine_30 : decode cX9_tellShine 30 = .ok (.aload_n 3, 1) := by decide +kernel
theorem dX9_tellShine_31 : decode cX9_tellShine 31 = .ok (.iload_n 2, 1) := by decide +kernel
theorem dX9_tellShine_32 : decode cX9_tellShine 32 = .ok (.putfield 204, 3) := by decide +kernel
theorem dX9_tellShine_35 : decode cX9_tellShine 35 = .ok (.iload 4, 2) := by decide +kernel
theorem dX9_tellShine_37 : decode cX9_tellShine 37 = .ok (.ireturn, 1) := by decide +kernel
theorem dX9_feed_0 : decode cX9_feed 0 = .ok (.iload_n 1, 1) := by decide +kernel
theorem dX9_feed_1 : decode cX9_feed 1 = .ok (.ifCond .lt 10, 3) := by decide +kernel
theorem dX9_feed_4 : decode cX9_feed 4 = .ok (.iload_n 1, 1) := by decide +kernel
theorem dX9_feed_5 : decode cX9_feed 5 = .ok (.sipush 256, 3) := by decide +kernel
theorem dX9_feed_8 : decode cX9_feed 8 = .ok (.if_icmp .lt 10, 3) := by decide +kernel
theorem dX9_feed_11 : decode cX9_feed 11 = .ok (.aload_n 0, 1) := by decide +kernel
theorem dX9_feed_12 : decode cX9_feed 12 = .ok (.bipush (-2), 2) := by decide +kernel
theorem dX9_feed_14 : decode cX9_feed 14 = .ok (.invokevirtual 79, 3) := by decide +kernel
theorem dX9_feed_17 : decode cX9_feed 17 = .ok (.ireturn, 1) := by decide +kernel
theorem dX9_feed_18 : decode cX9_feed 18 = .ok (.aload_n 0, 1) := by decide +kernel
theorem dX9_feed_19 : decode cX9_feed 19 = .ok (.getfield 60, 3) := by decide +kernel
theorem dX9_feed_22 : decode cX9_feed 22 = .ok (.iload_n 1, 1) := by decide +kernel
theorem dX9_feed_23 : decode cX9_feed 23 = .ok (.invokevirtual 207, 3) := by decide +kernel
theorem dX9_feed_26 : decode cX9_feed 26 = .ok (.ifCond .eq 13, 3) := by decide +kernel
theorem dX9_feed_29 : decode cX9_feed 29 = .ok (.aload_n 0, 1) := by decide +kernel
theorem dX9_feed_30 : decode cX9_feed 30 = .ok (.getfield 60, 3) := by decide +kernel
theorem dX9_feed_33 : decode cX9_feed 33 = .ok (.getfield 209, 3) := by decide +kernel
theorem dX9_feed_36 : decode cX9_feed 36 = .ok (.goto 9, 3) := by decide +kernel
theorem dX9_feed_39 : decode cX9_feed 39 = .ok (.aload_n 0, 1) := by decide +kernel
theorem dX9_feed_40 : decode cX9_feed 40 = .ok (.bipush (-6), 2) := by decide +kernel
theorem dX9_feed_42 : decode cX9_feed 42 = .ok (.invokevirtual 79, 3) := by decide +kernel
theorem dX9_feed_45 : decode cX9_feed 45 = .ok (.ireturn, 1) := by decide +kernel
theorem dX9_wipe_0 : decode cX9_wipe 0 = .ok (.aload_n 0, 1) := by decide +kernel
theorem dX9_wipe_1 : decode cX9_wipe 1 = .ok (.getfield 60, 3) := by decide +kernel
theorem dX9_wipe_4 : decode cX9_wipe 4 = .ok (.getfield 209, 3) := by decide +kernel
theorem dX9_wipe_7 : decode cX9_wipe 7 = .ok (.istore_n 1, 1) := by decide +kernel
theorem dX9_wipe_8 : decode cX9_wipe 8 = .ok (.aload_n 0, 1) := by decide +kernel
theorem dX9_wipe_9 : decode cX9_wipe 9 = .ok (.getfield 60, 3) := by decide +kernel
theorem dX9_wipe_12 : decode cX9_wipe 12 = .ok (.invokevirtual 210, 3) := by decide +kernel
theorem dX9_wipe_15 : decode cX9_wipe 15 = .ok (.iload_n 1, 1) := by decide +kernel
theorem dX9_wipe_16 : decode cX9_wipe 16 = .ok (.ireturn, 1) := by decide +kernel
theorem dX9_window_0 : decode cX9_window 0 = .ok (.aload_n 0, 1) := by decide +kernel
theorem dX9_window_1 : decode cX9_window 1 = .ok (.getfield 16, 3) := by decide +kernel
theorem dX9_window_4 : decode cX9_window 4 = .ok (.aload_n 0, 1) := by decide +kernel
theorem dX9_window_5 : decode cX9_window 5 = .ok (.getfield 12, 3) := by decide +kernel
theorem dX9_window_8 : decode cX9_window 8 = .ok (.invokevirtual 213, 3) := by decide +kernel
theorem dX9_window_11 : decode cX9_window 11 = .ok (.aload_n 0, 1) := by decide +kernel
theorem dX9_window_12 : decode cX9_window 12 = .ok (.getfield 60, 3) := by decide +kernel
theorem dX9_window_15 : decode cX9_window 15 = .ok (.aload_n 0, 1) := by decide +kernel
theorem dX9_window_16 : decode cX9_window 16 = .ok (.getfield 16, 3) := by decide +kernel
theorem dX9_window_19 : decode cX9_window 19 = .ok (.invokevirtual 217, 3) := by decide +kernel
theorem dX9_window_22 : decode cX9_window 22 = .ok (.istore_n 1, 1) := by decide +kernel
theorem dX9_window_23 : decode cX9_window 23 = .ok (.aload_n 0, 1) := by decide +kernel
theorem dX9_window_24 : decode cX9_window 24 = .ok (.getfield 60, 3) := by decide +kernel
theorem dX9_window_27 : decode cX9_window 27 = .ok (.getfield 221, 3) := by decide +kernel
theorem dX9_window_30 : decode cX9_window 30 = .ok (.istore_n 2, 1) := by decide +kernel
theorem dX9_window_31 : decode cX9_window 31 = .ok (.aload_n 0, 1) := by decide +kernel
theorem dX9_window_32 : decode cX9_window 32 = .ok (.getfield 60, 3) := by decide +kernel
theorem dX9_window_35 : decode cX9_window 35 = .ok (.invokevirtual 210, 3) := by decide +kernel
theorem dX9_window_38 : decode cX9_window 38 = .ok (.iload_n 2, 1) := by decide +kernel
theorem dX9_window_39 : decode cX9_window 39 = .ok (.iconst (-1), 1) := by decide +kernel
theorem dX9_window_40 : decode cX9_window 40 = .ok (.if_icmp .eq 15, 3) := by decide +kernel
theorem dX9_window_43 : decode cX9_window 43 = .ok (.aload_n 0, 1) := by decide +kernel
theorem dX9_window_44 : decode cX9_window 44 = .ok (.bipush (-2), 2) := by decide +kernel
theorem dX9_window_46 : decode cX9_window 46 = .ok (.invokevirtual 79, 3) := by decide +kernel
theorem dX9_window_49 : decode cX9_window 49 = .ok (.pop, 1) := by decide +kernel
theorem dX9_window_50 : decode cX9_window 50 = .ok (.bipush (-20), 2) := by decide +kernel
theorem dX9_window_52 : decode cX9_window 52 = .ok (.iload_n 2, 1) := by decide +kernel
theorem dX9_window_53 : decode cX9_window 53 = .ok (.isub, 1) := by decide +kernel
theorem dX9_window_54 : decode cX9_window 54 = .ok (.ireturn, 1) := by decide +kernel
theorem dX9_window_55 : decode cX9_window 55 = .ok (.aload_n 0, 1) := by decide +kernel
theorem dX9_window_56 : decode cX9_window 56 = .ok (.getfield 12, 3) := by decide +kernel
theorem dX9_window_59 : decode cX9_window 59 = .ok (.aload_n 0, 1) := by decide +kernel
theorem dX9_window_60 : decode cX9_window 60 = .ok (.getfield 16, 3) := by decide +kernel
theorem dX9_window_63 : decode cX9_window 63 = .ok (.invokevirtual 213, 3) := by decide +kernel
theorem dX9_window_66 : decode cX9_window 66 = .ok (.iload_n 1, 1) := by decide +kernel
theorem dX9_window_67 : decode cX9_window 67 = .ok (.ireturn, 1) := by decide +kernel
theorem dX9_sortAt_0 : decode cX9_sortAt 0 = .ok (.iload_n 1, 1) := by decide +kernel
theorem dX9_sortAt_1 : decode cX9_sortAt 1 = .ok (.invokestatic 157, 3) := by decide +kernel
theorem dX9_sortAt_4 : decode cX9_sortAt 4 = .ok (.ifCond .eq 15, 3) := by decide +kernel
theorem dX9_sortAt_7 : decode cX9_sortAt 7 = .ok (.aload_n 0, 1) := by decide +kernel
theorem dX9_sortAt_8 : decode cX9_sortAt 8 = .ok (.getfield 12, 3) := by decide +kernel
theorem dX9_sortAt_11 : decode cX9_sortAt 11 = .ok (.getfield 163, 3) := by decide +kernel
theorem dX9_sortAt_14 : decode cX9_sortAt 14 = .ok (.iload_n 1, 1) := by decide +kernel
theorem dX9_sortAt_15 : decode cX9_sortAt 15 = .ok (.iaload, 1) := by decide +kernel
theorem dX9_sortAt_16 : decode cX9_sortAt 16 = .ok (.goto 9, 3) := by decide +kernel
theorem dX9_sortAt_19 : decode cX9_sortAt 19 = .ok (.aload_n 0, 1) := by decide +kernel
theorem dX9_sortAt_20 : decode cX9_sortAt 20 = .ok (.bipush (-2), 2) := by decide +kernel
theorem dX9_sortAt_22 : decode cX9_sortAt 22 = .ok (.invokevirtual 79, 3) := by decide +kernel
theorem dX9_sortAt_25 : decode cX9_sortAt 25 = .ok (.ireturn, 1) := by decide +kernel
theorem dX9_lookerOf_0 : decode cX9_lookerOf 0 = .ok (.aload_n 0, 1) := by decide +kernel
theorem dX9_lookerOf_1 : decode cX9_lookerOf 1 = .ok (.iload_n 1, 1) := by decide +kernel
theorem dX9_lookerOf_2 : decode cX9_lookerOf 2 = .ok (.invokevirtual 126, 3) := by decide +kernel
theorem dX9_lookerOf_5 : decode cX9_lookerOf 5 = .ok (.ifCond .ne 10, 3) := by decide +kernel
theorem dX9_lookerOf_8 : decode cX9_lookerOf 8 = .ok (.aload_n 0, 1) := by decide +kernel
theorem dX9_lookerOf_9 : decode cX9_lookerOf 9 = .ok (.bipush (-2), 2) := by decide +kernel
theorem dX9_lookerOf_11 : decode cX9_lookerOf 11 = .ok (.invokevirtual 79, 3) := by decide +kernel
theorem dX9_lookerOf_14 : decode cX9_lookerOf 14 = .ok (.ireturn, 1) := by decide +kernel
theorem dX9_lookerOf_15 : decode cX9_lookerOf 15 = .ok (.aload_n 0, 1) := by decide +kernel
theorem dX9_lookerOf_16 : decode cX9_lookerOf 16 = .ok (.getfield 12, 3) := by decide +kernel
theorem dX9_lookerOf_19 : decode cX9_lookerOf 19 = .ok (.getfield 135, 3) := by decide +kernel
theorem dX9_lookerOf_22 : decode cX9_lookerOf 22 = .ok (.iload_n 1, 1) := by decide +kernel
theorem dX9_lookerOf_23 : decode cX9_lookerOf 23 = .ok (.aaload, 1) := by decide +kernel
theorem dX9_lookerOf_24 : decode cX9_lookerOf 24 = .ok (.astore_n 3, 1) := by decide +kernel
theorem dX9_lookerOf_25 : decode cX9_lookerOf 25 = .ok (.iload_n 2, 1) := by decide +kernel
theorem dX9_lookerOf_26 : decode cX9_lookerOf 26 = .ok (.tableswitch 68 0 5 #[38, 43, 48, 53, 58, 63], 38) := by decide +kernel
theorem dX9_lookerOf_64 : decode cX9_lookerOf 64 = .ok (.aload_n 3, 1) := by decide +kernel
theorem dX9_lookerOf_65 : decode cX9_lookerOf 65 = .ok (.getfield 139, 3) := by decide +kernel
theorem dX9_lookerOf_68 : decode cX9_lookerOf 68 = .ok (.ireturn, 1) := by decide +kernel
theorem dX9_lookerOf_69 : decode cX9_lookerOf 69 = .ok (.aload_n 3, 1) := by decide +kernel
theorem dX9_lookerOf_70 : decode cX9_lookerOf 70 = .ok (.getfield 224, 3) := by decide +kernel
theorem dX9_lookerOf_73 : decode cX9_lookerOf 73 = .ok (.ireturn, 1) := by decide +kernel
theorem dX9_lookerOf_74 : decode cX9_lookerOf 74 = .ok (.aload_n 3, 1) := by decide +kernel
theorem dX9_lookerOf_75 : decode cX9_lookerOf 75 = .ok (.getfield 147, 3) := by decide +kernel
theorem dX9_lookerOf_78 : decode cX9_lookerOf 78 = .ok (.ireturn, 1) := by decide +kernel
theorem dX9_lookerOf_79 : decode cX9_lookerOf 79 = .ok (.aload_n 3, 1) := by decide +kernel
theorem dX9_lookerOf_80 : decode cX9_lookerOf 80 = .ok (.getfield 181, 3) := by decide +kernel
theorem dX9_lookerOf_83 : decode cX9_lookerOf 83 = .ok (.ireturn, 1) := by decide +kernel
theorem dX9_lookerOf_84 : decode cX9_lookerOf 84 = .ok (.aload_n 3, 1) := by decide +kernel
theorem dX9_lookerOf_85 : decode cX9_lookerOf 85 = .ok (.getfield 198, 3) := by decide +kernel
theorem dX9_lookerOf_88 : decode cX9_lookerOf 88 = .ok (.ireturn, 1) := by decide +kernel
theorem dX9_lookerOf_89 : decode cX9_lookerOf 89 = .ok (.aload_n 3, 1) := by decide +kernel
theorem dX9_lookerOf_90 : decode cX9_lookerOf 90 = .ok (.getfield 204, 3) := by decide +kernel
theorem dX9_lookerOf_93 : decode cX9_lookerOf 93 = .ok (.ireturn, 1) := by decide +kernel
theorem dX9_lookerOf_94 : decode cX9_lookerOf 94 = .ok (.iload_n 2, 1) := by decide +kernel
theorem dX9_lookerOf_95 : decode cX9_lookerOf 95 = .ok (.invokestatic 227, 3) := by decide +kernel
theorem dX9_lookerOf_98 : decode cX9_lookerOf 98 = .ok (.ifCond .eq 15, 3) := by decide +kernel
theorem dX9_lookerOf_101 : decode cX9_lookerOf 101 = .ok (.aload_n 3, 1) := by decide +kernel
theorem dX9_lookerOf_102 : decode cX9_lookerOf 102 = .ok (.getfield 230, 3) := by decide +kernel
theorem dX9_lookerOf_105 : decode cX9_lookerOf 105 = .ok (.iload_n 2, 1) := by decide +kernel
theorem dX9_lookerOf_106 : decode cX9_lookerOf 106 = .ok (.bipush 10, 2) := by decide +kernel
theorem dX9_lookerOf_108 : decode cX9_lookerOf 108 = .ok (.isub, 1) := by decide +kernel
theorem dX9_lookerOf_109 : decode cX9_lookerOf 109 = .ok (.iaload, 1) := by decide +kernel
theorem dX9_lookerOf_110 : decode cX9_lookerOf 110 = .ok (.goto 9, 3) := by decide +kernel
theorem dX9_lookerOf_113 : decode cX9_lookerOf 113 = .ok (.aload_n 0, 1) := by decide +kernel
theorem dX9_lookerOf_114 : decode cX9_lookerOf 114 = .ok (.bipush (-2), 2) := by decide +kernel
theorem dX9_lookerOf_116 : decode cX9_lookerOf 116 = .ok (.invokevirtual 79, 3) := by decide +kernel
theorem dX9_lookerOf_119 : decode cX9_lookerOf 119 = .ok (.ireturn, 1) := by decide +kernel
theorem dX9_sorts_0 : decode cX9_sorts 0 = .ok (.iload_n 1, 1) := by decide +kernel
theorem dX9_sorts_1 : decode cX9_sorts 1 = .ok (.invokestatic 168, 3) := by decide +kernel
theorem dX9_sorts_4 : decode cX9_sorts 4 = .ok (.ifCond .ne 10, 3) := by decide +kernel
theorem dX9_sorts_7 : decode cX9_sorts 7 = .ok (.aload_n 0, 1) := by decide +kernel
theorem dX9_sorts_8 : decode cX9_sorts 8 = .ok (.bipush (-2), 2) := by decide +kernel
theorem dX9_sorts_10 : decode cX9_sorts 10 = .ok (.invokevirtual 79, 3) := by decide +kernel
theorem dX9_sorts_13 : decode cX9_sorts 13 = .ok (.ireturn, 1) := by decide +kernel
theorem dX9_sorts_14 : decode cX9_sorts 14 = .ok (.iload_n 2, 1) := by decide +kernel
theorem dX9_sorts_15 : decode cX9_sorts 15 = .ok (.tableswitch 56 0 2 #[25, 38, 47], 25) := by decide +kernel
theorem dX9_sorts_40 : decode cX9_sorts 40 = .ok (.aload_n 0, 1) := by decide +kernel
theorem dX9_sorts_41 : decode cX9_sorts 41 = .ok (.getfield 12, 3) := by decide +kernel
theorem dX9_sorts_44 : decode cX9_sorts 44 = .ok (.getfield 233, 3) := by decide +kernel
theorem dX9_sorts_47 : decode cX9_sorts 47 = .ok (.iload_n 1, 1) := by decide +kernel
theorem dX9_sorts_48 : decode cX9_sorts 48 = .ok (.iaload, 1) := by decide +kernel
theorem dX9_sorts_49 : decode cX9_sorts 49 = .ok (.invokestatic 236, 3) := by decide +kernel
theorem dX9_sorts_52 : decode cX9_sorts 52 = .ok (.ireturn, 1) := by decide +kernel
theorem dX9_sorts_53 : decode cX9_sorts 53 = .ok (.aload_n 0, 1) := by decide +kernel
theorem dX9_sorts_54 : decode cX9_sorts 54 = .ok (.getfield 12, 3) := by decide +kernel
theorem dX9_sorts_57 : decode cX9_sorts 57 = .ok (.iload_n 1, 1) := by decide +kernel
theorem dX9_sorts_58 : decode cX9_sorts 58 = .ok (.invokevirtual 241, 3) := by decide +kernel
theorem dX9_sorts_61 : decode cX9_sorts 61 = .ok (.ireturn, 1) := by decide +kernel
theorem dX9_sorts_62 : decode cX9_sorts 62 = .ok (.aload_n 0, 1) := by decide +kernel
theorem dX9_sorts_63 : decode cX9_sorts 63 = .ok (.getfield 12, 3) := by decide +kernel
theorem dX9_sorts_66 : decode cX9_sorts 66 = .ok (.iload_n 1, 1) := by decide +kernel
theorem dX9_sorts_67 : decode cX9_sorts 67 = .ok (.invokevirtual 244, 3) := by decide +kernel
theorem dX9_sorts_70 : decode cX9_sorts 70 = .ok (.ireturn, 1) := by decide +kernel
theorem dX9_sorts_71 : decode cX9_sorts 71 = .ok (.aload_n 0, 1) := by decide +kernel
theorem dX9_sorts_72 : decode cX9_sorts 72 = .ok (.bipush (-2), 2) := by decide +kernel
theorem dX9_sorts_74 : decode cX9_sorts 74 = .ok (.invokevirtual 79, 3) := by decide +kernel
theorem dX9_sorts_77 : decode cX9_sorts 77 = .ok (.ireturn, 1) := by decide +kernel
theorem dX9_rare_0 : decode cX9_rare 0 = .ok (.iload_n 1, 1) := by decide +kernel
theorem dX9_rare_1 : decode cX9_rare 1 = .ok (.ifCond .eq 15, 3) := by decide +kernel
theorem dX9_rare_4 : decode cX9_rare 4 = .ok (.iload_n 1, 1) := by decide +kernel
theorem dX9_rare_5 : decode cX9_rare 5 = .ok (.iconst 1, 1) := by decide +kernel
theorem dX9_rare_6 : decode cX9_rare 6 = .ok (.if_icmp .eq 10, 3) := by decide +kernel
theorem dX9_rare_9 : decode cX9_rare 9 = .ok (.aload_n 0, 1) := by decide +kernel
theorem dX9_rare_10 : decode cX9_rare 10 = .ok (.bipush (-2), 2) := by decide +kernel
theorem dX9_rare_12 : decode cX9_rare 12 = .ok (.invokevirtual 79, 3) := by decide +kernel
theorem dX9_rare_15 : decode cX9_rare 15 = .ok (.ireturn, 1) := by decide +kernel
theorem dX9_rare_16 : decode cX9_rare 16 = .ok (.iload_n 1, 1) := by decide +kernel
theorem dX9_rare_17 : decode cX9_rare 17 = .ok (.ifCond .ne 13, 3) := by decide +kernel
theorem dX9_rare_20 : decode cX9_rare 20 = .ok (.aload_n 0, 1) := by decide +kernel
theorem dX9_rare_21 : decode cX9_rare 21 = .ok (.getfield 12, 3) := by decide +kernel
theorem dX9_rare_24 : decode cX9_rare 24 = .ok (.invokevirtual 247, 3) := by decide +kernel
theorem dX9_rare_27 : decode cX9_rare 27 = .ok (.goto 10, 3) := by decide +kernel
theorem dX9_rare_30 : decode cX9_rare 30 = .ok (.aload_n 0, 1) := by decide +kernel
theorem dX9_rare_31 : decode cX9_rare 31 = .ok (.getfield 12, 3) := by decide +kernel
theorem dX9_rare_34 : decode cX9_rare 34 = .ok (.invokevirtual 251, 3) := by decide +kernel
theorem dX9_rare_37 : decode cX9_rare 37 = .ok (.istore_n 2, 1) := by decide +kernel
theorem dX9_rare_38 : decode cX9_rare 38 = .ok (.iload_n 2, 1) := by decide +kernel
theorem dX9_rare_39 : decode cX9_rare 39 = .ok (.iconst (-1), 1) := by decide +kernel
theorem dX9_rare_40 : decode cX9_rare 40 = .ok (.if_icmp .ne 12, 3) := by decide +kernel
theorem dX9_rare_43 : decode cX9_rare 43 = .ok (.aload_n 0, 1) := by decide +kernel
theorem dX9_rare_44 : decode cX9_rare 44 = .ok (.bipush (-5), 2) := by decide +kernel
theorem dX9_rare_46 : decode cX9_rare 46 = .ok (.invokevirtual 79, 3) := by decide +kernel
theorem dX9_rare_49 : decode cX9_rare 49 = .ok (.goto 4, 3) := by decide +kernel
theorem dX9_rare_52 : decode cX9_rare 52 = .ok (.iload_n 2, 1) := by decide +kernel
theorem dX9_rare_53 : decode cX9_rare 53 = .ok (.ireturn, 1) := by decide +kernel
theorem dX9_first_0 : decode cX9_first 0 = .ok (.iload_n 1, 1) := by decide +kernel
theorem dX9_first_1 : decode cX9_first 1 = .ok (.ifCond .lt 8, 3) := by decide +kernel
theorem dX9_first_4 : decode cX9_first 4 = .ok (.iload_n 1, 1) := by decide +kernel
theorem dX9_first_5 : decode cX9_first 5 = .ok (.iconst 2, 1) := by decide +kernel
theorem dX9_first_6 : decode cX9_first 6 = .ok (.if_icmp .le 10, 3) := by decide +kernel
theorem dX9_first_9 : decode cX9_first 9 = .ok (.aload_n 0, 1) := by decide +kernel
theorem dX9_first_10 : decode cX9_first 10 = .ok (.bipush (-2), 2) := by decide +kernel
theorem dX9_first_12 : decode cX9_first 12 = .ok (.invokevirtual 79, 3) := by decide +kernel
theorem dX9_first_15 : decode cX9_first 15 = .ok (.ireturn, 1) := by decide +kernel
theorem dX9_first_16 : decode cX9_first 16 = .ok (.aload_n 0, 1) := by decide +kernel
theorem dX9_first_17 : decode cX9_first 17 = .ok (.getfield 12, 3) := by decide +kernel
theorem dX9_first_20 : decode cX9_first 20 = .ok (.iload_n 1, 1) := by decide +kernel
theorem dX9_first_21 : decode cX9_first 21 = .ok (.invokevirtual 254, 3) := by decide +kernel
theorem dX9_first_24 : decode cX9_first 24 = .ok (.istore_n 2, 1) := by decide +kernel
theorem dX9_first_25 : decode cX9_first 25 = .ok (.iload_n 2, 1) := by decide +kernel
theorem dX9_first_26 : decode cX9_first 26 = .ok (.iconst (-1), 1) := by decide +kernel
theorem dX9_first_27 : decode cX9_first 27 = .ok (.if_icmp .ne 12, 3) := by decide +kernel
theorem dX9_first_30 : decode cX9_first 30 = .ok (.aload_n 0, 1) := by decide +kernel
theorem dX9_first_31 : decode cX9_first 31 = .ok (.bipush (-5), 2) := by decide +kernel
theorem dX9_first_33 : decode cX9_first 33 = .ok (.invokevirtual 79, 3) := by decide +kernel
theorem dX9_first_36 : decode cX9_first 36 = .ok (.goto 4, 3) := by decide +kernel
theorem dX9_first_39 : decode cX9_first 39 = .ok (.iload_n 2, 1) := by decide +kernel
theorem dX9_first_40 : decode cX9_first 40 = .ok (.ireturn, 1) := by decide +kernel
theorem dX9_places_0 : decode cX9_places 0 = .ok (.aload_n 0, 1) := by decide +kernel
theorem dX9_places_1 : decode cX9_places 1 = .ok (.getfield 12, 3) := by decide +kernel
theorem dX9_places_4 : decode cX9_places 4 = .ok (.getfield 150, 3) := by decide +kernel
theorem dX9_places_7 : decode cX9_places 7 = .ok (.ireturn, 1) := by decide +kernel
theorem dX9_left_0 : decode cX9_left 0 = .ok (.aload_n 0, 1) := by decide +kernel
theorem dX9_left_1 : decode cX9_left 1 = .ok (.iload_n 1, 1) := by decide +kernel
theorem dX9_left_2 : decode cX9_left 2 = .ok (.invokevirtual 257, 3) := by decide +kernel
theorem dX9_left_5 : decode cX9_left 5 = .ok (.ifCond .ne 10, 3) := by decide +kernel
theorem dX9_left_8 : decode cX9_left 8 = .ok (.aload_n 0, 1) := by decide +kernel
theorem dX9_left_9 : decode cX9_left 9 = .ok (.bipush (-2), 2) := by decide +kernel
theorem dX9_left_11 : decode cX9_left 11 = .ok (.invokevirtual 79, 3) := by decide +kernel
theorem dX9_left_14 : decode cX9_left 14 = .ok (.ireturn, 1) := by decide +kernel
theorem dX9_left_15 : decode cX9_left 15 = .ok (.aload_n 0, 1) := by decide +kernel
theorem dX9_left_16 : decode cX9_left 16 = .ok (.getfield 25, 3) := by decide +kernel
theorem dX9_left_19 : decode cX9_left 19 = .ok (.aload_n 0, 1) := by decide +kernel
theorem dX9_left_20 : decode cX9_left 20 = .ok (.getfield 12, 3) := by decide +kernel
theorem dX9_left_23 : decode cX9_left 23 = .ok (.iload_n 1, 1) := by decide +kernel
theorem dX9_left_24 : decode cX9_left 24 = .ok (.aload_n 0, 1) := by decide +kernel
theorem dX9_left_25 : decode cX9_left 25 = .ok (.getfield 12, 3) := by decide +kernel
theorem dX9_left_28 : decode cX9_left 28 = .ok (.getfield 150, 3) := by decide +kernel
theorem dX9_left_31 : decode cX9_left 31 = .ok (.invokevirtual 260, 3) := by decide +kernel
theorem dX9_left_34 : decode cX9_left 34 = .ok (.aload_n 0, 1) := by decide +kernel
theorem dX9_left_35 : decode cX9_left 35 = .ok (.getfield 25, 3) := by decide +kernel
theorem dX9_left_38 : decode cX9_left 38 = .ok (.getfield 264, 3) := by decide +kernel
theorem dX9_left_41 : decode cX9_left 41 = .ok (.ireturn, 1) := by decide +kernel
theorem dX9_taken_0 : decode cX9_taken 0 = .ok (.aload_n 0, 1) := by decide +kernel
theorem dX9_taken_1 : decode cX9_taken 1 = .ok (.iload_n 1, 1) := by decide +kernel
theorem dX9_taken_2 : decode cX9_taken 2 = .ok (.invokevirtual 257, 3) := by decide +kernel
theorem dX9_taken_5 : decode cX9_taken 5 = .ok (.ifCond .eq 11, 3) := by decide +kernel
theorem dX9_taken_8 : decode cX9_taken 8 = .ok (.aload_n 0, 1) := by decide +kernel
theorem dX9_taken_9 : decode cX9_taken 9 = .ok (.iload_n 2, 1) := by decide +kernel
theorem dX9_taken_10 : decode cX9_taken 10 = .ok (.invokevirtual 126, 3) := by decide +kernel
theorem dX9_taken_13 : decode cX9_taken 13 = .ok (.ifCond .ne 10, 3) := by decide +kernel
theorem dX9_taken_16 : decode cX9_taken 16 = .ok (.aload_n 0, 1) := by decide +kernel
theorem dX9_taken_17 : decode cX9_taken 17 = .ok (.bipush (-2), 2) := by decide +kernel
theorem dX9_taken_19 : decode cX9_taken 19 = .ok (.invokevirtual 79, 3) := by decide +kernel
theorem dX9_taken_22 : decode cX9_taken 22 = .ok (.ireturn, 1) := by decide +kernel
theorem dX9_taken_23 : decode cX9_taken 23 = .ok (.aload_n 0, 1) := by decide +kernel
theorem dX9_taken_24 : decode cX9_taken 24 = .ok (.getfield 25, 3) := by decide +kernel
theorem dX9_taken_27 : decode cX9_taken 27 = .ok (.aload_n 0, 1) := by decide +kernel
theorem dX9_taken_28 : decode cX9_taken 28 = .ok (.getfield 12, 3) := by decide +kernel
theorem dX9_taken_31 : decode cX9_taken 31 = .ok (.iload_n 1, 1) := by decide +kernel
theorem dX9_taken_32 : decode cX9_taken 32 = .ok (.aload_n 0, 1) := by decide +kernel
theorem dX9_taken_33 : decode cX9_taken 33 = .ok (.getfield 12, 3) := by decide +kernel
theorem dX9_taken_36 : decode cX9_taken 36 = .ok (.getfield 150, 3) := by decide +kernel
theorem dX9_taken_39 : decode cX9_taken 39 = .ok (.invokevirtual 260, 3) := by decide +kernel
theorem dX9_taken_42 : decode cX9_taken 42 = .ok (.aload_n 0, 1) := by decide +kernel
theorem dX9_taken_43 : decode cX9_taken 43 = .ok (.getfield 25, 3) := by decide +kernel
theorem dX9_taken_46 : decode cX9_taken 46 = .ok (.getfield 267, 3) := by decide +kernel
theorem dX9_taken_49 : decode cX9_taken 49 = .ok (.iload_n 2, 1) := by decide +kernel
theorem dX9_taken_50 : decode cX9_taken 50 = .ok (.iaload, 1) := by decide +kernel
theorem dX9_taken_51 : decode cX9_taken 51 = .ok (.ireturn, 1) := by decide +kernel
theorem dX9_glad_0 : decode cX9_glad 0 = .ok (.aload_n 0, 1) := by decide +kernel
theorem dX9_glad_1 : decode cX9_glad 1 = .ok (.iload_n 1, 1) := by decide +kernel
theorem dX9_glad_2 : decode cX9_glad 2 = .ok (.invokevirtual 257, 3) := by decide +kernel
theorem dX9_glad_5 : decode cX9_glad 5 = .ok (.ifCond .eq 12, 3) := by decide +kernel
theorem dX9_glad_8 : decode cX9_glad 8 = .ok (.iload_n 2, 1) := by decide +kernel
theorem dX9_glad_9 : decode cX9_glad 9 = .ok (.ifCond .eq 15, 3) := by decide +kernel
theorem dX9_glad_12 : decode cX9_glad 12 = .ok (.iload_n 2, 1) := by decide +kernel
theorem dX9_glad_13 : decode cX9_glad 13 = .ok (.iconst 1, 1) := by decide +kernel
theorem dX9_glad_14 : decode cX9_glad 14 = .ok (.if_icmp .eq 10, 3) := by decide +kernel
theorem dX9_glad_17 : decode cX9_glad 17 = .ok (.aload_n 0, 1) := by decide +kernel
theorem dX9_glad_18 : decode cX9_glad 18 = .ok (.bipush (-2), 2) := by decide +kernel
theorem dX9_glad_20 : decode cX9_glad 20 = .ok (.invokevirtual 79, 3) := by decide +kernel
theorem dX9_glad_23 : decode cX9_glad 23 = .ok (.ireturn, 1) := by decide +kernel
theorem dX9_glad_24 : decode cX9_glad 24 = .ok (.aload_n 0, 1) := by decide +kernel
theorem dX9_glad_25 : decode cX9_glad 25 = .ok (.getfield 25, 3) := by decide +kernel
theorem dX9_glad_28 : decode cX9_glad 28 = .ok (.aload_n 0, 1) := by decide +kernel
theorem dX9_glad_29 : decode cX9_glad 29 = .ok (.getfield 12, 3) := by decide +kernel
theorem dX9_glad_32 : decode cX9_glad 32 = .ok (.iload_n 1, 1) := by decide +kernel
theorem dX9_glad_33 : decode cX9_glad 33 = .ok (.aload_n 0, 1) := by decide +kernel
theorem dX9_glad_34 : decode cX9_glad 34 = .ok (.getfield 12, 3) := by decide +kernel
theorem dX9_glad_37 : decode cX9_glad 37 = .ok (.getfield 150, 3) := by decide +kernel
theorem dX9_glad_40 : decode cX9_glad 40 = .ok (.invokevirtual 260, 3) := by decide +kernel
theorem dX9_glad_43 : decode cX9_glad 43 = .ok (.iload_n 2, 1) := by decide +kernel
theorem dX9_glad_44 : decode cX9_glad 44 = .ok (.ifCond .ne 13, 3) := by decide +kernel
theorem dX9_glad_47 : decode cX9_glad 47 = .ok (.aload_n 0, 1) := by decide +kernel
theorem dX9_glad_48 : decode cX9_glad 48 = .ok (.getfield 25, 3) := by decide +kernel
theorem dX9_glad_51 : decode cX9_glad 51 = .ok (.getfield 270, 3) := by decide +kernel
theorem dX9_glad_54 : decode cX9_glad 54 = .ok (.goto 10, 3) := by decide +kernel
theorem dX9_glad_57 : decode cX9_glad 57 = .ok (.aload_n 0, 1) := by decide +kernel
theorem dX9_glad_58 : decode cX9_glad 58 = .ok (.getfield 25, 3) := by decide +kernel
theorem dX9_glad_61 : decode cX9_glad 61 = .ok (.getfield 273, 3) := by decide +kernel
theorem dX9_glad_64 : decode cX9_glad 64 = .ok (.invokestatic 236, 3) := by decide +kernel
theorem dX9_glad_67 : decode cX9_glad 67 = .ok (.ireturn, 1) := by decide +kernel
theorem dX9_order_0 : decode cX9_order 0 = .ok (.aload_n 0, 1) := by decide +kernel
theorem dX9_order_1 : decode cX9_order 1 = .ok (.iload_n 1, 1) := by decide +kernel
theorem dX9_order_2 : decode cX9_order 2 = .ok (.invokevirtual 257, 3) := by decide +kernel
theorem dX9_order_5 : decode cX9_order 5 = .ok (.ifCond .ne 10, 3) := by decide +kernel
theorem dX9_order_8 : decode cX9_order 8 = .ok (.aload_n 0, 1) := by decide +kernel
theorem dX9_order_9 : decode cX9_order 9 = .ok (.bipush (-2), 2) := by decide +kernel
theorem dX9_order_11 : decode cX9_order 11 = .ok (.invokevirtual 79, 3) := by decide +kernel
theorem dX9_order_14 : decode cX9_order 14 = .ok (.ireturn, 1) := by decide +kernel
theorem dX9_order_15 : decode cX9_order 15 = .ok (.aload_n 0, 1) := by decide +kernel
theorem dX9_order_16 : decode cX9_order 16 = .ok (.getfield 12, 3) := by decide +kernel
theorem dX9_order_19 : decode cX9_order 19 = .ok (.iload_n 1, 1) := by decide +kernel
theorem dX9_order_20 : decode cX9_order 20 = .ok (.iload_n 2, 1) := by decide +kernel
theorem dX9_order_21 : decode cX9_order 21 = .ok (.invokevirtual 276, 3) := by decide +kernel
theorem dX9_order_24 : decode cX9_order 24 = .ok (.istore_n 3, 1) := by decide +kernel
theorem dX9_order_25 : decode cX9_order 25 = .ok (.iload_n 3, 1) := by decide +kernel
theorem dX9_order_26 : decode cX9_order 26 = .ok (.iconst (-1), 1) := by decide +kernel
theorem dX9_order_27 : decode cX9_order 27 = .ok (.if_icmp .ne 12, 3) := by decide +kernel
theorem dX9_order_30 : decode cX9_order 30 = .ok (.aload_n 0, 1) := by decide +kernel
theorem dX9_order_31 : decode cX9_order 31 = .ok (.bipush (-2), 2) := by decide +kernel
theorem dX9_order_33 : decode cX9_order 33 = .ok (.invokevirtual 79, 3) := by decide +kernel
theorem dX9_order_36 : decode cX9_order 36 = .ok (.goto 4, 3) := by decide +kernel
theorem dX9_order_39 : decode cX9_order 39 = .ok (.iload_n 3, 1) := by decide +kernel
theorem dX9_order_40 : decode cX9_order 40 = .ok (.ireturn, 1) := by decide +kernel
theorem dX9_gladOnes_0 : decode cX9_gladOnes 0 = .ok (.aload_n 0, 1) := by decide +kernel
theorem dX9_gladOnes_1 : decode cX9_gladOnes 1 = .ok (.iload_n 1, 1) := by decide +kernel
theorem dX9_gladOnes_2 : decode cX9_gladOnes 2 = .ok (.invokevirtual 257, 3) := by decide +kernel
theorem dX9_gladOnes_5 : decode cX9_gladOnes 5 = .ok (.ifCond .ne 10, 3) := by decide +kernel
theorem dX9_gladOnes_8 : decode cX9_gladOnes 8 = .ok (.aload_n 0, 1) := by decide +kernel
theorem dX9_gladOnes_9 : decode cX9_gladOnes 9 = .ok (.bipush (-2), 2) := by decide +kernel
theorem dX9_gladOnes_11 : decode cX9_gladOnes 11 = .ok (.invokevirtual 79, 3) := by decide +kernel
theorem dX9_gladOnes_14 : decode cX9_gladOnes 14 = .ok (.ireturn, 1) := by decide +kernel
theorem dX9_gladOnes_15 : decode cX9_gladOnes 15 = .ok (.aload_n 0, 1) := by decide +kernel
theorem dX9_gladOnes_16 : decode cX9_gladOnes 16 = .ok (.getfield 25, 3) := by decide +kernel
theorem dX9_gladOnes_19 : decode cX9_gladOnes 19 = .ok (.aload_n 0, 1) := by decide +kernel
theorem dX9_gladOnes_20 : decode cX9_gladOnes 20 = .ok (.getfield 12, 3) := by decide +kernel
theorem dX9_gladOnes_23 : decode cX9_gladOnes 23 = .ok (.iload_n 1, 1) := by decide +kernel
theorem dX9_gladOnes_24 : decode cX9_gladOnes 24 = .ok (.aload_n 0, 1) := by decide +kernel
theorem dX9_gladOnes_25 : decode cX9_gladOnes 25 = .ok (.getfield 12, 3) := by decide +kernel
theorem dX9_gladOnes_28 : decode cX9_gladOnes 28 = .ok (.getfield 150, 3) := by decide +kernel
theorem dX9_gladOnes_31 : decode cX9_gladOnes 31 = .ok (.invokevirtual 260, 3) := by decide +kernel
theorem dX9_gladOnes_34 : decode cX9_gladOnes 34 = .ok (.aload_n 0, 1) := by decide +kernel
theorem dX9_gladOnes_35 : decode cX9_gladOnes 35 = .ok (.getfield 25, 3) := by decide +kernel
theorem dX9_gladOnes_38 : decode cX9_gladOnes 38 = .ok (.getfield 270, 3) := by decide +kernel
theorem dX9_gladOnes_41 : decode cX9_gladOnes 41 = .ok (.ireturn, 1) := by decide +kernel
theorem dX9_empty_0 : decode cX9_empty 0 = .ok (.aload_n 0, 1) := by decide +kernel
theorem dX9_empty_1 : decode cX9_empty 1 = .ok (.iload_n 1, 1) := by decide +kernel
theorem dX9_empty_2 : decode cX9_empty 2 = .ok (.invokevirtual 257, 3) := by decide +kernel
theorem dX9_empty_5 : decode cX9_empty 5 = .ok (.ifCond .ne 10, 3) := by decide +kernel
theorem dX9_empty_8 : decode cX9_empty 8 = .ok (.aload_n 0, 1) := by decide +kernel
theorem dX9_empty_9 : decode cX9_empty 9 = .ok (.bipush (-2), 2) := by decide +kernel
theorem dX9_empty_11 : decode cX9_empty 11 = .ok (.invokevirtual 79, 3) := by decide +kernel
theorem dX9_empty_14 : decode cX9_empty 14 = .ok (.ireturn, 1) := by decide +kernel
theorem dX9_empty_15 : decode cX9_empty 15 = .ok (.aload_n 0, 1) := by decide +kernel
theorem dX9_empty_16 : decode cX9_empty 16 = .ok (.getfield 25, 3) := by decide +kernel
theorem dX9_empty_19 : decode cX9_empty 19 = .ok (.aload_n 0, 1) := by decide +kernel
theorem dX9_empty_20 : decode cX9_empty 20 = .ok (.getfield 12, 3) := by decide +kernel
theorem dX9_empty_23 : decode cX9_empty 23 = .ok (.iload_n 1, 1) := by decide +kernel
theorem dX9_empty_24 : decode cX9_empty 24 = .ok (.aload_n 0, 1) := by decide +kernel
theorem dX9_empty_25 : decode cX9_empty 25 = .ok (.getfield 12, 3) := by decide +kernel
theorem dX9_empty_28 : decode cX9_empty 28 = .ok (.getfield 150, 3) := by decide +kernel
theorem dX9_empty_31 : decode cX9_empty 31 = .ok (.invokevirtual 260, 3) := by decide +kernel
theorem dX9_empty_34 : decode cX9_empty 34 = .ok (.aload_n 0, 1) := by decide +kernel
theorem dX9_empty_35 : decode cX9_empty 35 = .ok (.getfield 25, 3) := by decide +kernel
theorem dX9_empty_38 : decode cX9_empty 38 = .ok (.getfield 273, 3) := by decide +kernel
theorem dX9_empty_41 : decode cX9_empty 41 = .ok (.ireturn, 1) := by decide +kernel
theorem dX9_without_0 : decode cX9_without 0 = .ok (.aload_n 0, 1) := by decide +kernel
theorem dX9_without_1 : decode cX9_without 1 = .ok (.iload_n 1, 1) := by decide +kernel
theorem dX9_without_2 : decode cX9_without 2 = .ok (.invokevirtual 126, 3) := by decide +kernel
theorem dX9_without_5 : decode cX9_without 5 = .ok (.ifCond .ne 10, 3) := by decide +kernel
theorem dX9_without_8 : decode cX9_without 8 = .ok (.aload_n 0, 1) := by decide +kernel
theorem dX9_without_9 : decode cX9_without 9 = .ok (.bipush (-2), 2) := by decide +kernel
theorem dX9_without_11 : decode cX9_without 11 = .ok (.invokevirtual 79, 3) := by decide +kernel
theorem dX9_without_14 : decode cX9_without 14 = .ok (.ireturn, 1) := by decide +kernel
theorem dX9_without_15 : decode cX9_without 15 = .ok (.aload_n 0, 1) := by decide +kernel
theorem dX9_without_16 : decode cX9_without 16 = .ok (.getfield 25, 3) := by decide +kernel
theorem dX9_without_19 : decode cX9_without 19 = .ok (.aload_n 0, 1) := by decide +kernel
theorem dX9_without_20 : decode cX9_without 20 = .ok (.getfield 12, 3) := by decide +kernel
theorem dX9_without_23 : decode cX9_without 23 = .ok (.aload_n 0, 1) := by decide +kernel
theorem dX9_without_24 : decode cX9_without 24 = .ok (.getfield 12, 3) := by decide +kernel
theorem dX9_without_27 : decode cX9_without 27 = .ok (.invokevirtual 279, 3) := by decide +kernel
theorem dX9_without_30 : decode cX9_without 30 = .ok (.iconst 1, 1) := by decide +kernel
theorem dX9_without_31 : decode cX9_without 31 = .ok (.iload_n 1, 1) := by decide +kernel
theorem dX9_without_32 : decode cX9_without 32 = .ok (.ishl, 1) := by decide +kernel
theorem dX9_without_33 : decode cX9_without 33 = .ok (.iconst (-1), 1) := by decide +kernel
theorem dX9_without_34 : decode cX9_without 34 = .ok (.ixor, 1) := by decide +kernel
theorem dX9_without_35 : decode cX9_without 35 = .ok (.iand, 1) := by decide +kernel
theorem dX9_without_36 : decode cX9_without 36 = .ok (.aload_n 0, 1) := by decide +kernel
theorem dX9_without_37 : decode cX9_without 37 = .ok (.getfield 12, 3) := by decide +kernel
theorem dX9_without_40 : decode cX9_without 40 = .ok (.getfield 150, 3) := by decide +kernel
theorem dX9_without_43 : decode cX9_without 43 = .ok (.invokevirtual 260, 3) := by decide +kernel
theorem dX9_without_46 : decode cX9_without 46 = .ok (.aload_n 0, 1) := by decide +kernel
theorem dX9_without_47 : decode cX9_without 47 = .ok (.getfield 25, 3) := by decide +kernel
theorem dX9_without_50 : decode cX9_without 50 = .ok (.getfield 270, 3) := by decide +kernel
theorem dX9_without_53 : decode cX9_without 53 = .ok (.invokestatic 236, 3) := by decide +kernel
theorem dX9_without_56 : decode cX9_without 56 = .ok (.ireturn, 1) := by decide +kernel
theorem dX9_twice_0 : decode cX9_twice 0 = .ok (.aload_n 0, 1) := by decide +kernel
theorem dX9_twice_1 : decode cX9_twice 1 = .ok (.iload_n 1, 1) := by decide +kernel
theorem dX9_twice_2 : decode cX9_twice 2 = .ok (.invokevirtual 257, 3) := by decide +kernel
theorem dX9_twice_5 : decode cX9_twice 5 = .ok (.ifCond .eq 11, 3) := by decide +kernel
theorem dX9_twice_8 : decode cX9_twice 8 = .ok (.aload_n 0, 1) := by decide +kernel
theorem dX9_twice_9 : decode cX9_twice 9 = .ok (.iload_n 2, 1) := by decide +kernel
theorem dX9_twice_10 : decode cX9_twice 10 = .ok (.invokevirtual 257, 3) := by decide +kernel
theorem dX9_twice_13 : decode cX9_twice 13 = .ok (.ifCond .ne 10, 3) := by decide +kernel
theorem dX9_twice_16 : decode cX9_twice 16 = .ok (.aload_n 0, 1) := by decide +kernel
theorem dX9_twice_17 : decode cX9_twice 17 = .ok (.bipush (-2), 2) := by decide +kernel
theorem dX9_twice_19 : decode cX9_twice 19 = .ok (.invokevirtual 79, 3) := by decide +kernel
theorem dX9_twice_22 : decode cX9_twice 22 = .ok (.ireturn, 1) := by decide +kernel
theorem dX9_twice_23 : decode cX9_twice 23 = .ok (.aload_n 0, 1) := by decide +kernel
theorem dX9_twice_24 : decode cX9_twice 24 = .ok (.getfield 25, 3) := by decide +kernel
theorem dX9_twice_27 : decode cX9_twice 27 = .ok (.aload_n 0, 1) := by decide +kernel
theorem dX9_twice_28 : decode cX9_twice 28 = .ok (.getfield 12, 3) := by decide +kernel
theorem dX9_twice_31 : decode cX9_twice 31 = .ok (.iload_n 1, 1) := by decide +kernel
theorem dX9_twice_32 : decode cX9_twice 32 = .ok (.aload_n 0, 1) := by decide +kernel
theorem dX9_twice_33 : decode cX9_twice 33 = .ok (.getfield 12, 3) := by decide +kernel
theorem dX9_twice_36 : decode cX9_twice 36 = .ok (.getfield 150, 3) := by decide +kernel
theorem dX9_twice_39 : decode cX9_twice 39 = .ok (.invokevirtual 260, 3) := by decide +kernel
theorem dX9_twice_42 : decode cX9_twice 42 = .ok (.aload_n 0, 1) := by decide +kernel
theorem dX9_twice_43 : decode cX9_twice 43 = .ok (.getfield 25, 3) := by decide +kernel
theorem dX9_twice_46 : decode cX9_twice 46 = .ok (.aload_n 0, 1) := by decide +kernel
theorem dX9_twice_47 : decode cX9_twice 47 = .ok (.getfield 12, 3) := by decide +kernel
theorem dX9_twice_50 : decode cX9_twice 50 = .ok (.iload_n 2, 1) := by decide +kernel
theorem dX9_twice_51 : decode cX9_twice 51 = .ok (.aload_n 0, 1) := by decide +kernel
theorem dX9_twice_52 : decode cX9_twice 52 = .ok (.getfield 25, 3) := by decide +kernel
theorem dX9_twice_55 : decode cX9_twice 55 = .ok (.getfield 264, 3) := by decide +kernel
theorem dX9_twice_58 : decode cX9_twice 58 = .ok (.invokevirtual 260, 3) := by decide +kernel
theorem dX9_twice_61 : decode cX9_twice 61 = .ok (.aload_n 0, 1) := by decide +kernel
theorem dX9_twice_62 : decode cX9_twice 62 = .ok (.getfield 25, 3) := by decide +kernel
theorem dX9_twice_65 : decode cX9_twice 65 = .ok (.getfield 264, 3) := by decide +kernel
theorem dX9_twice_68 : decode cX9_twice 68 = .ok (.ireturn, 1) := by decide +kernel
theorem dX9_unlike_0 : decode cX9_unlike 0 = .ok (.aload_n 0, 1) := by decide +kernel
theorem dX9_unlike_1 : decode cX9_unlike 1 = .ok (.iload_n 1, 1) := by decide +kernel
theorem dX9_unlike_2 : decode cX9_unlike 2 = .ok (.invokevirtual 257, 3) := by decide +kernel
theorem dX9_unlike_5 : decode cX9_unlike 5 = .ok (.ifCond .ne 10, 3) := by decide +kernel
theorem dX9_unlike_8 : decode cX9_unlike 8 = .ok (.aload_n 0, 1) := by decide +kernel
theorem dX9_unlike_9 : decode cX9_unlike 9 = .ok (.bipush (-2), 2) := by decide +kernel
theorem dX9_unlike_11 : decode cX9_unlike 11 = .ok (.invokevirtual 79, 3) := by decide +kernel
theorem dX9_unlike_14 : decode cX9_unlike 14 = .ok (.ireturn, 1) := by decide +kernel
theorem dX9_unlike_15 : decode cX9_unlike 15 = .ok (.aload_n 0, 1) := by decide +kernel
theorem dX9_unlike_16 : decode cX9_unlike 16 = .ok (.getfield 25, 3) := by decide +kernel
theorem dX9_unlike_19 : decode cX9_unlike 19 = .ok (.aload_n 0, 1) := by decide +kernel
theorem dX9_unlike_20 : decode cX9_unlike 20 = .ok (.getfield 12, 3) := by decide +kernel
theorem dX9_unlike_23 : decode cX9_unlike 23 = .ok (.iload_n 1, 1) := by decide +kernel
theorem dX9_unlike_24 : decode cX9_unlike 24 = .ok (.aload_n 0, 1) := by decide +kernel
theorem dX9_unlike_25 : decode cX9_unlike 25 = .ok (.getfield 12, 3) := by decide +kernel
theorem dX9_unlike_28 : decode cX9_unlike 28 = .ok (.getfield 150, 3) := by decide +kernel
theorem dX9_unlike_31 : decode cX9_unlike 31 = .ok (.invokevirtual 260, 3) := by decide +kernel
theorem dX9_unlike_34 : decode cX9_unlike 34 = .ok (.aload_n 0, 1) := by decide +kernel
theorem dX9_unlike_35 : decode cX9_unlike 35 = .ok (.getfield 12, 3) := by decide +kernel
theorem dX9_unlike_38 : decode cX9_unlike 38 = .ok (.aload_n 0, 1) := by decide +kernel
theorem dX9_unlike_39 : decode cX9_unlike 39 = .ok (.getfield 25, 3) := by decide +kernel
theorem dX9_unlike_42 : decode cX9_unlike 42 = .ok (.getfield 264, 3) := by decide +kernel
theorem dX9_unlike_45 : decode cX9_unlike 45 = .ok (.invokevirtual 282, 3) := by decide +kernel
theorem dX9_unlike_48 : decode cX9_unlike 48 = .ok (.ireturn, 1) := by decide +kernel
theorem dX9_judge_0 : decode cX9_judge 0 = .ok (.iload_n 1, 1) := by decide +kernel
theorem dX9_judge_1 : decode cX9_judge 1 = .ok (.invokestatic 75, 3) := by decide +kernel
theorem dX9_judge_4 : decode cX9_judge 4 = .ok (.ifCond .eq 13, 3) := by decide +kernel
theorem dX9_judge_7 : decode cX9_judge 7 = .ok (.iload_n 2, 1) := by decide +kernel
theorem dX9_judge_8 : decode cX9_judge 8 = .ok (.ifCond .lt 9, 3) := by decide +kernel
theorem dX9_judge_11 : decode cX9_judge 11 = .ok (.iload_n 2, 1) := by decide +kernel
theorem dX9_judge_12 : decode cX9_judge 12 = .ok (.bipush 20, 2) := by decide +kernel
theorem dX9_judge_14 : decode cX9_judge 14 = .ok (.if_icmp .le 10, 3) := by decide +kernel
theorem dX9_judge_17 : decode cX9_judge 17 = .ok (.aload_n 0, 1) := by decide +kernel
theorem dX9_judge_18 : decode cX9_judge 18 = .ok (.bipush (-2), 2) := by decide +kernel
theorem dX9_judge_20 : decode cX9_judge 20 = .ok (.invokevirtual 79, 3) := by decide +kernel
theorem dX9_judge_23 : decode cX9_judge 23 = .ok (.ireturn, 1) := by decide +kernel
theorem dX9_judge_24 : decode cX9_judge 24 = .ok (.aload_n 0, 1) := by decide +kernel
theorem dX9_judge_25 : decode cX9_judge 25 = .ok (.getfield 66, 3) := by decide +kernel
theorem dX9_judge_28 : decode cX9_judge 28 = .ok (.iload_n 1, 1) := by decide +kernel
theorem dX9_judge_29 : decode cX9_judge 29 = .ok (.aaload, 1) := by decide +kernel
theorem dX9_judge_30 : decode cX9_judge 30 = .ok (.astore_n 3, 1) := by decide +kernel
theorem dX9_judge_31 : decode cX9_judge 31 = .ok (.aload_n 3, 1) := by decide +kernel
theorem dX9_judge_32 : decode cX9_judge 32 = .ok (.invokevirtual 87, 3) := by decide +kernel
theorem dX9_judge_35 : decode cX9_judge 35 = .ok (.ifCond .ne 22, 3) := by decide +kernel
theorem dX9_judge_38 : decode cX9_judge 38 = .ok (.aload_n 0, 1) := by decide +kernel
theorem dX9_judge_39 : decode cX9_judge 39 = .ok (.aload_n 3, 1) := by decide +kernel
theorem dX9_judge_40 : decode cX9_judge 40 = .ok (.invokevirtual 91, 3) := by decide +kernel
theorem dX9_judge_43 : decode cX9_judge 43 = .ok (.ifCond .eq 8, 3) := by decide +kernel
theorem dX9_judge_46 : decode cX9_judge 46 = .ok (.bipush (-4), 2) := by decide +kernel
theorem dX9_judge_48 : decode cX9_judge 48 = .ok (.goto 5, 3) := by decide +kernel
theorem dX9_judge_51 : decode cX9_judge 51 = .ok (.bipush (-3), 2) := by decide +kernel
theorem dX9_judge_53 : decode cX9_judge 53 = .ok (.invokevirtual 79, 3) := by decide +kernel
theorem dX9_judge_56 : decode cX9_judge 56 = .ok (.ireturn, 1) := by decide +kernel
theorem dX9_judge_57 : decode cX9_judge 57 = .ok (.aload_n 3, 1) := by decide +kernel
theorem dX9_judge_58 : decode cX9_judge 58 = .ok (.getfield 94, 3) := by decide +kernel
theorem dX9_judge_61 : decode cX9_judge 61 = .ok (.iconst 2, 1) := by decide +kernel
theorem dX9_judge_62 : decode cX9_judge 62 = .ok (.iload_n 2, 1) := by decide +kernel
theorem dX9_judge_63 : decode cX9_judge 63 = .ok (.imul, 1) := by decide +kernel
theorem dX9_judge_64 : decode cX9_judge 64 = .ok (.if_icmp .ge 10, 3) := by decide +kernel
theorem dX9_judge_67 : decode cX9_judge 67 = .ok (.aload_n 0, 1) := by decide +kernel
theorem dX9_judge_68 : decode cX9_judge 68 = .ok (.bipush (-2), 2) := by decide +kernel
theorem dX9_judge_70 : decode cX9_judge 70 = .ok (.invokevirtual 79, 3) := by decide +kernel
theorem dX9_judge_73 : decode cX9_judge 73 = .ok (.ireturn, 1) := by decide +kernel
theorem dX9_judge_74 : decode cX9_judge 74 = .ok (.aload_n 0, 1) := by decide +kernel
theorem dX9_judge_75 : decode cX9_judge 75 = .ok (.getfield 12, 3) := by decide +kernel
theorem dX9_judge_78 : decode cX9_judge 78 = .ok (.aload_n 3, 1) := by decide +kernel
theorem dX9_judge_79 : decode cX9_judge 79 = .ok (.iload_n 2, 1) := by decide +kernel
theorem dX9_judge_80 : decode cX9_judge 80 = .ok (.invokevirtual 285, 3) := by decide +kernel
theorem dX9_judge_83 : decode cX9_judge 83 = .ok (.ireturn, 1) := by decide +kernel
theorem dX9_away_0 : decode cX9_away 0 = .ok (.aload_n 0, 1) := by decide +kernel
theorem dX9_away_1 : decode cX9_away 1 = .ok (.iload_n 1, 1) := by decide +kernel
theorem dX9_away_2 : decode cX9_away 2 = .ok (.invokevirtual 126, 3) := by decide +kernel
theorem dX9_away_5 : decode cX9_away 5 = .ok (.ifCond .eq 12, 3) := by decide +kernel
theorem dX9_away_8 : decode cX9_away 8 = .ok (.iload_n 2, 1) := by decide +kernel
theorem dX9_away_9 : decode cX9_away 9 = .ok (.ifCond .eq 15, 3) := by decide +kernel
theorem dX9_away_12 : decode cX9_away 12 = .ok (.iload_n 2, 1) := by decide +kernel
theorem dX9_away_13 : decode cX9_away 13 = .ok (.iconst 1, 1) := by decide +kernel
theorem dX9_away_14 : decode cX9_away 14 = .ok (.if_icmp .eq 10, 3) := by decide +kernel
theorem dX9_away_17 : decode cX9_away 17 = .ok (.aload_n 0, 1) := by decide +kernel
theorem dX9_away_18 : decode cX9_away 18 = .ok (.bipush (-2), 2) := by decide +kernel
theorem dX9_away_20 : decode cX9_away 20 = .ok (.invokevirtual 79, 3) := by decide +kernel
theorem dX9_away_23 : decode cX9_away 23 = .ok (.ireturn, 1) := by decide +kernel
theorem dX9_away_24 : decode cX9_away 24 = .ok (.aload_n 0, 1) := by decide +kernel
theorem dX9_away_25 : decode cX9_away 25 = .ok (.getfield 32, 3) := by decide +kernel
theorem dX9_away_28 : decode cX9_away 28 = .ok (.aload_n 0, 1) := by decide +kernel
theorem dX9_away_29 : decode cX9_away 29 = .ok (.getfield 12, 3) := by decide +kernel
theorem dX9_away_32 : decode cX9_away 32 = .ok (.iload_n 1, 1) := by decide +kernel
theorem dX9_away_33 : decode cX9_away 33 = .ok (.invokevirtual 289, 3) := by decide +kernel
theorem dX9_away_36 : decode cX9_away 36 = .ok (.iload_n 2, 1) := by decide +kernel
theorem dX9_away_37 : decode cX9_away 37 = .ok (.ifCond .ne 13, 3) := by decide +kernel
theorem dX9_away_40 : decode cX9_away 40 = .ok (.aload_n 0, 1) := by decide +kernel
theorem dX9_away_41 : decode cX9_away 41 = .ok (.getfield 32, 3) := by decide +kernel
theorem dX9_away_44 : decode cX9_away 44 = .ok (.getfield 293, 3) := by decide +kernel
theorem dX9_away_47 : decode cX9_away 47 = .ok (.goto 10, 3) := by decide +kernel
theorem dX9_away_50 : decode cX9_away 50 = .ok (.aload_n 0, 1) := by decide +kernel
theorem dX9_away_51 : decode cX9_away 51 = .ok (.getfield 32, 3) := by decide +kernel
theorem dX9_away_54 : decode cX9_away 54 = .ok (.getfield 296, 3) := by decide +kernel
theorem dX9_away_57 : decode cX9_away 57 = .ok (.ireturn, 1) := by decide +kernel
theorem dX9_crowd_0 : decode cX9_crowd 0 = .ok (.iload_n 1, 1) := by decide +kernel
theorem dX9_crowd_1 : decode cX9_crowd 1 = .ok (.ifCond .lt 23, 3) := by decide +kernel
theorem dX9_crowd_4 : decode cX9_crowd 4 = .ok (.iload_n 1, 1) := by decide +kernel
theorem dX9_crowd_5 : decode cX9_crowd 5 = .ok (.aload_n 0, 1) := by decide +kernel
theorem dX9_crowd_6 : decode cX9_crowd 6 = .ok (.getfield 12, 3) := by decide +kernel
theorem dX9_crowd_9 : decode cX9_crowd 9 = .ok (.getfield 299, 3) := by decide +kernel
theorem dX9_crowd_12 : decode cX9_crowd 12 = .ok (.if_icmp .gt 12, 3) := by decide +kernel
theorem dX9_crowd_15 : decode cX9_crowd 15 = .ok (.iload_n 2, 1) := by decide +kernel
theorem dX9_crowd_16 : decode cX9_crowd 16 = .ok (.ifCond .eq 15, 3) := by decide +kernel
theorem dX9_crowd_19 : decode cX9_crowd 19 = .ok (.iload_n 2, 1) := by decide +kernel
theorem dX9_crowd_20 : decode cX9_crowd 20 = .ok (.iconst 1, 1) := by decide +kernel
theorem dX9_crowd_21 : decode cX9_crowd 21 = .ok (.if_icmp .eq 10, 3) := by decide +kernel
theorem dX9_crowd_24 : decode cX9_crowd 24 = .ok (.aload_n 0, 1) := by decide +kernel
theorem dX9_crowd_25 : decode cX9_crowd 25 = .ok (.bipush (-2), 2) := by decide +kernel
theorem dX9_crowd_27 : decode cX9_crowd 27 = .ok (.invokevirtual 79, 3) := by decide +kernel
theorem dX9_crowd_30 : decode cX9_crowd 30 = .ok (.ireturn, 1) := by decide +kernel
theorem dX9_crowd_31 : decode cX9_crowd 31 = .ok (.aload_n 0, 1) := by decide +kernel
theorem dX9_crowd_32 : decode cX9_crowd 32 = .ok (.getfield 32, 3) := by decide +kernel
theorem dX9_crowd_35 : decode cX9_crowd 35 = .ok (.aload_n 0, 1) := by decide +kernel
theorem dX9_crowd_36 : decode cX9_crowd 36 = .ok (.getfield 12, 3) := by decide +kernel
theorem dX9_crowd_39 : decode cX9_crowd 39 = .ok (.iload_n 1, 1) := by decide +kernel
theorem dX9_crowd_40 : decode cX9_crowd 40 = .ok (.invokevirtual 302, 3) := by decide +kernel
theorem dX9_crowd_43 : decode cX9_crowd 43 = .ok (.iload_n 2, 1) := by decide +kernel
theorem dX9_crowd_44 : decode cX9_crowd 44 = .ok (.ifCond .ne 13, 3) := by decide +kernel
theorem dX9_crowd_47 : decode cX9_crowd 47 = .ok (.aload_n 0, 1) := by decide +kernel
theorem dX9_crowd_48 : decode cX9_crowd 48 = .ok (.getfield 32, 3) := by decide +kernel
theorem dX9_crowd_51 : decode cX9_crowd 51 = .ok (.getfield 293, 3) := by decide +kernel
theorem dX9_crowd_54 : decode cX9_crowd 54 = .ok (.goto 10, 3) := by decide +kernel
theorem dX9_crowd_57 : decode cX9_crowd 57 = .ok (.aload_n 0, 1) := by decide +kernel
theorem dX9_crowd_58 : decode cX9_crowd 58 = .ok (.getfield 32, 3) := by decide +kernel
theorem dX9_crowd_61 : decode cX9_crowd 61 = .ok (.getfield 296, 3) := by decide +kernel
theorem dX9_crowd_64 : decode cX9_crowd 64 = .ok (.ireturn, 1) := by decide +kernel
theorem dX9_who_0 : decode cX9_who 0 = .ok (.iload_n 1, 1) := by decide +kernel
theorem dX9_who_1 : decode cX9_who 1 = .ok (.invokestatic 305, 3) := by decide +kernel
theorem dX9_who_4 : decode cX9_who 4 = .ok (.ifCond .eq 12, 3) := by decide +kernel
theorem dX9_who_7 : decode cX9_who 7 = .ok (.iload_n 2, 1) := by decide +kernel
theorem dX9_who_8 : decode cX9_who 8 = .ok (.ifCond .lt 8, 3) := by decide +kernel
theorem dX9_who_11 : decode cX9_who 11 = .ok (.iload_n 2, 1) := by decide +kernel
theorem dX9_who_12 : decode cX9_who 12 = .ok (.iconst 3, 1) := by decide +kernel
theorem dX9_who_13 : decode cX9_who 13 = .ok (.if_icmp .le 10, 3) := by decide +kernel
theorem dX9_who_16 : decode cX9_who 16 = .ok (.aload_n 0, 1) := by decide +kernel
theorem dX9_who_17 : decode cX9_who 17 = .ok (.bipush (-2), 2) := by decide +kernel
theorem dX9_who_19 : decode cX9_who 19 = .ok (.invokevirtual 79, 3) := by decide +kernel
theorem dX9_who_22 : decode cX9_who 22 = .ok (.ireturn, 1) := by decide +kernel
theorem dX9_who_23 : decode cX9_who 23 = .ok (.aload_n 0, 1) := by decide +kernel
theorem dX9_who_24 : decode cX9_who 24 = .ok (.getfield 32, 3) := by decide +kernel
theorem dX9_who_27 : decode cX9_who 27 = .ok (.aload_n 0, 1) := by decide +kernel
theorem dX9_who_28 : decode cX9_who 28 = .ok (.getfield 12, 3) := by decide +kernel
theorem dX9_who_31 : decode cX9_who 31 = .ok (.iload_n 1, 1) := by decide +kernel
theorem dX9_who_32 : decode cX9_who 32 = .ok (.invokevirtual 308, 3) := by decide +kernel
theorem dX9_who_35 : decode cX9_who 35 = .ok (.iload_n 2, 1) := by decide +kernel
theorem dX9_who_36 : decode cX9_who 36 = .ok (.tableswitch 52 0 2 #[28, 36, 44], 28) := by decide +kernel
theorem dX9_who_64 : decode cX9_who 64 = .ok (.aload_n 0, 1) := by decide +kernel
theorem dX9_who_65 : decode cX9_who 65 = .ok (.getfield 32, 3) := by decide +kernel
theorem dX9_who_68 : decode cX9_who 68 = .ok (.getfield 293, 3) := by decide +kernel
theorem dX9_who_71 : decode cX9_who 71 = .ok (.ireturn, 1) := by decide +kernel
theorem dX9_who_72 : decode cX9_who 72 = .ok (.aload_n 0, 1) := by decide +kernel
theorem dX9_who_73 : decode cX9_who 73 = .ok (.getfield 32, 3) := by decide +kernel
theorem dX9_who_76 : decode cX9_who 76 = .ok (.getfield 296, 3) := by decide +kernel
theorem dX9_who_79 : decode cX9_who 79 = .ok (.ireturn, 1) := by decide +kernel
theorem dX9_who_80 : decode cX9_who 80 = .ok (.aload_n 0, 1) := by decide +kernel
theorem dX9_who_81 : decode cX9_who 81 = .ok (.getfield 32, 3) := by decide +kernel
theorem dX9_who_84 : decode cX9_who 84 = .ok (.getfield 311, 3) := by decide +kernel
theorem dX9_who_87 : decode cX9_who 87 = .ok (.ireturn, 1) := by decide +kernel
theorem dX9_who_88 : decode cX9_who 88 = .ok (.aload_n 0, 1) := by decide +kernel
theorem dX9_who_89 : decode cX9_who 89 = .ok (.getfield 32, 3) := by decide +kernel
theorem dX9_who_92 : decode cX9_who 92 = .ok (.getfield 314, 3) := by decide +kernel
theorem dX9_who_95 : decode cX9_who 95 = .ok (.ireturn, 1) := by decide +kernel
theorem dX9_odds_0 : decode cX9_odds 0 = .ok (.iload_n 1, 1) := by decide +kernel
theorem dX9_odds_1 : decode cX9_odds 1 = .ok (.invokestatic 157, 3) := by decide +kernel
theorem dX9_odds_4 : decode cX9_odds 4 = .ok (.ifCond .ne 10, 3) := by decide +kernel
theorem dX9_odds_7 : decode cX9_odds 7 = .ok (.aload_n 0, 1) := by decide +kernel
theorem dX9_odds_8 : decode cX9_odds 8 = .ok (.bipush (-2), 2) := by decide +kernel
theorem dX9_odds_10 : decode cX9_odds 10 = .ok (.invokevirtual 79, 3) := by decide +kernel
theorem dX9_odds_13 : decode cX9_odds 13 = .ok (.ireturn, 1) := by decide +kernel
theorem dX9_odds_14 : decode cX9_odds 14 = .ok (.aload_n 0, 1) := by decide +kernel
theorem dX9_odds_15 : decode cX9_odds 15 = .ok (.getfield 12, 3) := by decide +kernel
theorem dX9_odds_18 : decode cX9_odds 18 = .ok (.getfield 163, 3) := by decide +kernel
theorem dX9_odds_21 : decode cX9_odds 21 = .ok (.iload_n 1, 1) := by decide +kernel
theorem dX9_odds_22 : decode cX9_odds 22 = .ok (.iaload, 1) := by decide +kernel
theorem dX9_odds_23 : decode cX9_odds 23 = .ok (.iconst (-1), 1) := by decide +kernel
theorem dX9_odds_24 : decode cX9_odds 24 = .ok (.if_icmp .ne 10, 3) := by decide +kernel
theorem dX9_odds_27 : decode cX9_odds 27 = .ok (.aload_n 0, 1) := by decide +kernel
theorem dX9_odds_28 : decode cX9_odds 28 = .ok (.bipush (-5), 2) := by decide +kernel
theorem dX9_odds_30 : decode cX9_odds 30 = .ok (.invokevirtual 79, 3) := by decide +kernel
theorem dX9_odds_33 : decode cX9_odds 33 = .ok (.ireturn, 1) := by decide +kernel
theorem dX9_odds_34 : decode cX9_odds 34 = .ok (.aload_n 0, 1) := by decide +kernel
theorem dX9_odds_35 : decode cX9_odds 35 = .ok (.getfield 39, 3) := by decide +kernel
theorem dX9_odds_38 : decode cX9_odds 38 = .ok (.aload_n 0, 1) := by decide +kernel
theorem dX9_odds_39 : decode cX9_odds 39 = .ok (.getfield 12, 3) := by decide +kernel
theorem dX9_odds_42 : decode cX9_odds 42 = .ok (.iload_n 1, 1) := by decide +kernel
theorem dX9_odds_43 : decode cX9_odds 43 = .ok (.invokevirtual 317, 3) := by decide +kernel
theorem dX9_odds_46 : decode cX9_odds 46 = .ok (.ireturn, 1) := by decide +kernel
theorem dX9_likely_0 : decode cX9_likely 0 = .ok (.aload_n 0, 1) := by decide +kernel
theorem dX9_likely_1 : decode cX9_likely 1 = .ok (.iload_n 1, 1) := by decide +kernel
theorem dX9_likely_2 : decode cX9_likely 2 = .ok (.invokevirtual 126, 3) := by decide +kernel
theorem dX9_likely_5 : decode cX9_likely 5 = .ok (.ifCond .eq 18, 3) := by decide +kernel
theorem dX9_likely_8 : decode cX9_likely 8 = .ok (.aload_n 0, 1) := by decide +kernel
theorem dX9_likely_9 : decode cX9_likely 9 = .ok (.getfield 39, 3) := by decide +kernel
theorem dX9_likely_12 : decode cX9_likely 12 = .ok (.aload_n 0, 1) := by decide +kernel
theorem dX9_likely_13 : decode cX9_likely 13 = .ok (.getfield 12, 3) := by decide +kernel
theorem dX9_likely_16 : decode cX9_likely 16 = .ok (.iload_n 1, 1) := by decide +kernel
theorem dX9_likely_17 : decode cX9_likely 17 = .ok (.invokevirtual 321, 3) := by decide +kernel
theorem dX9_likely_20 : decode cX9_likely 20 = .ok (.goto 9, 3) := by decide +kernel
theorem dX9_likely_23 : decode cX9_likely 23 = .ok (.aload_n 0, 1) := by decide +kernel
theorem dX9_likely_24 : decode cX9_likely 24 = .ok (.bipush (-2), 2) := by decide +kernel
theorem dX9_likely_26 : decode cX9_likely 26 = .ok (.invokevirtual 79, 3) := by decide +kernel
theorem dX9_likely_29 : decode cX9_likely 29 = .ok (.ireturn, 1) := by decide +kernel
theorem dX9_gladOdds_0 : decode cX9_gladOdds 0 = .ok (.iload_n 1, 1) := by decide +kernel
theorem dX9_gladOdds_1 : decode cX9_gladOdds 1 = .ok (.ifCond .lt 9, 3) := by decide +kernel
theorem dX9_gladOdds_4 : decode cX9_gladOdds 4 = .ok (.iload_n 1, 1) := by decide +kernel
theorem dX9_gladOdds_5 : decode cX9_gladOdds 5 = .ok (.bipush 8, 2) := by decide +kernel
theorem dX9_gladOdds_7 : decode cX9_gladOdds 7 = .ok (.if_icmp .le 10, 3) := by decide +kernel
theorem dX9_gladOdds_10 : decode cX9_gladOdds 10 = .ok (.aload_n 0, 1) := by decide +kernel
theorem dX9_gladOdds_11 : decode cX9_gladOdds 11 = .ok (.bipush (-2), 2) := by decide +kernel
theorem dX9_gladOdds_13 : decode cX9_gladOdds 13 = .ok (.invokevirtual 79, 3) := by decide +kernel
theorem dX9_gladOdds_16 : decode cX9_gladOdds 16 = .ok (.ireturn, 1) := by decide +kernel
theorem dX9_gladOdds_17 : decode cX9_gladOdds 17 = .ok (.aload_n 0, 1) := by decide +kernel
theorem dX9_gladOdds_18 : decode cX9_gladOdds 18 = .ok (.getfield 39, 3) := by decide +kernel
theorem dX9_gladOdds_21 : decode cX9_gladOdds 21 = .ok (.aload_n 0, 1) := by decide +kernel
theorem dX9_gladOdds_22 : decode cX9_gladOdds 22 = .ok (.getfield 12, 3) := by decide +kernel
theorem dX9_gladOdds_25 : decode cX9_gladOdds 25 = .ok (.iload_n 1, 1) := by decide +kernel
theorem dX9_gladOdds_26 : decode cX9_gladOdds 26 = .ok (.invokevirtual 324, 3) := by decide +kernel
theorem dX9_gladOdds_29 : decode cX9_gladOdds 29 = .ok (.ireturn, 1) := by decide +kernel
theorem dX9_meanLeft_0 : decode cX9_meanLeft 0 = .ok (.aload_n 0, 1) := by decide +kernel
theorem dX9_meanLeft_1 : decode cX9_meanLeft 1 = .ok (.getfield 39, 3) := by decide +kernel
theorem dX9_meanLeft_4 : decode cX9_meanLeft 4 = .ok (.aload_n 0, 1) := by decide +kernel
theorem dX9_meanLeft_5 : decode cX9_meanLeft 5 = .ok (.getfield 12, 3) := by decide +kernel
theorem dX9_meanLeft_8 : decode cX9_meanLeft 8 = .ok (.invokevirtual 327, 3) := by decide +kernel
theorem dX9_meanLeft_11 : decode cX9_meanLeft 11 = .ok (.ireturn, 1) := by decide +kernel
theorem dX9_setOut_0 : decode cX9_setOut 0 = .ok (.aload_n 0, 1) := by decide +kernel
theorem dX9_setOut_1 : decode cX9_setOut 1 = .ok (.iload_n 1, 1) := by decide +kernel
theorem dX9_setOut_2 : decode cX9_setOut 2 = .ok (.invokevirtual 257, 3) := by decide +kernel
theorem dX9_setOut_5 : decode cX9_setOut 5 = .ok (.ifCond .eq 8, 3) := by decide +kernel
theorem dX9_setOut_8 : decode cX9_setOut 8 = .ok (.iload_n 2, 1) := by decide +kernel
theorem dX9_setOut_9 : decode cX9_setOut 9 = .ok (.iconst (-1), 1) := by decide +kernel
theorem dX9_setOut_10 : decode cX9_setOut 10 = .ok (.if_icmp .ge 10, 3) := by decide +kernel
theorem dX9_setOut_13 : decode cX9_setOut 13 = .ok (.aload_n 0, 1) := by decide +kernel
theorem dX9_setOut_14 : decode cX9_setOut 14 = .ok (.bipush (-2), 2) := by decide +kernel
theorem dX9_setOut_16 : decode cX9_setOut 16 = .ok (.invokevirtual 79, 3) := by decide +kernel
theorem dX9_setOut_19 : decode cX9_setOut 19 = .ok (.ireturn, 1) := by decide +kernel
theorem dX9_setOut_20 : decode cX9_setOut 20 = .ok (.aload_n 0, 1) := by decide +kernel
theorem dX9_setOut_21 : decode cX9_setOut 21 = .ok (.getfield 46, 3) := by decide +kernel
theorem dX9_setOut_24 : decode cX9_setOut 24 = .ok (.aload_n 0, 1) := by decide +kernel
theorem dX9_setOut_25 : decode cX9_setOut 25 = .ok (.getfield 12, 3) := by decide +kernel
theorem dX9_setOut_28 : decode cX9_setOut 28 = .ok (.iload_n 1, 1) := by decide +kernel
theorem dX9_setOut_29 : decode cX9_setOut 29 = .ok (.invokevirtual 330, 3) := by decide +kernel
theorem dX9_setOut_32 : decode cX9_setOut 32 = .ok (.istore_n 3, 1) := by decide +kernel
theorem dX9_setOut_33 : decode cX9_setOut 33 = .ok (.iload_n 2, 1) := by decide +kernel
theorem dX9_setOut_34 : decode cX9_setOut 34 = .ok (.iconst (-1), 1) := by decide +kernel
theorem dX9_setOut_35 : decode cX9_setOut 35 = .ok (.if_icmp .ne 5, 3) := by decide +kernel
theorem dX9_setOut_38 : decode cX9_setOut 38 = .ok (.iload_n 3, 1) := by decide +kernel
theorem dX9_setOut_39 : decode cX9_setOut 39 = .ok (.ireturn, 1) := by decide +kernel
theorem dX9_setOut_40 : decode cX9_setOut 40 = .ok (.iload_n 2, 1) := by decide +kernel
theorem dX9_setOut_41 : decode cX9_setOut 41 = .ok (.iload_n 3, 1) := by decide +kernel
theorem dX9_setOut_42 : decode cX9_setOut 42 = .ok (.if_icmp .ge 14, 3) := by decide +kernel
theorem dX9_setOut_45 : decode cX9_setOut 45 = .ok (.aload_n 0, 1) := by decide +kernel
theorem dX9_setOut_46 : decode cX9_setOut 46 = .ok (.getfield 46, 3) := by decide +kernel
theorem dX9_setOut_49 : decode cX9_setOut 49 = .ok (.iload_n 2, 1) := by decide +kernel
theorem dX9_setOut_50 : decode cX9_setOut 50 = .ok (.invokevirtual 333, 3) := by decide +kernel
theorem dX9_setOut_53 : decode cX9_setOut 53 = .ok (.goto 9, 3) := by decide +kernel
theorem dX9_setOut_56 : decode cX9_setOut 56 = .ok (.aload_n 0, 1) := by decide +kernel
theorem dX9_setOut_57 : decode cX9_setOut 57 = .ok (.bipush (-5), 2) := by decide +kernel
theorem dX9_setOut_59 : decode cX9_setOut 59 = .ok (.invokevirtual 79, 3) := by decide +kernel
theorem dX9_setOut_62 : decode cX9_setOut 62 = .ok (.ireturn, 1) := by decide +kernel
theorem dX9_kinds_0 : decode cX9_kinds 0 = .ok (.aload_n 0, 1) := by decide +kernel
theorem dX9_kinds_1 : decode cX9_kinds 1 = .ok (.iload_n 1, 1) := by decide +kernel
theorem dX9_kinds_2 : decode cX9_kinds 2 = .ok (.invokevirtual 257, 3) := by decide +kernel
theorem dX9_kinds_5 : decode cX9_kinds 5 = .ok (.ifCond .eq 19, 3) := by decide +kernel
theorem dX9_kinds_8 : decode cX9_kinds 8 = .ok (.aload_n 0, 1) := by decide +kernel
theorem dX9_kinds_9 : decode cX9_kinds 9 = .ok (.iload_n 2, 1) := by decide +kernel
theorem dX9_kinds_10 : decode cX9_kinds 10 = .ok (.invokevirtual 126, 3) := by decide +kernel
theorem dX9_kinds_13 : decode cX9_kinds 13 = .ok (.ifCond .eq 11, 3) := by decide +kernel
theorem dX9_kinds_16 : decode cX9_kinds 16 = .ok (.iload_n 1, 1) := by decide +kernel
theorem dX9_kinds_17 : decode cX9_kinds 17 = .ok (.iload_n 2, 1) := by decide +kernel
theorem dX9_kinds_18 : decode cX9_kinds 18 = .ok (.ishr, 1) := by decide +kernel
theorem dX9_kinds_19 : decode cX9_kinds 19 = .ok (.iconst 1, 1) := by decide +kernel
theorem dX9_kinds_20 : decode cX9_kinds 20 = .ok (.iand, 1) := by decide +kernel
theorem dX9_kinds_21 : decode cX9_kinds 21 = .ok (.ifCond .ne 10, 3) := by decide +kernel
theorem dX9_kinds_24 : decode cX9_kinds 24 = .ok (.aload_n 0, 1) := by decide +kernel
theorem dX9_kinds_25 : decode cX9_kinds 25 = .ok (.bipush (-2), 2) := by decide +kernel
theorem dX9_kinds_27 : decode cX9_kinds 27 = .ok (.invokevirtual 79, 3) := by decide +kernel
theorem dX9_kinds_30 : decode cX9_kinds 30 = .ok (.ireturn, 1) := by decide +kernel
theorem dX9_kinds_31 : decode cX9_kinds 31 = .ok (.iload_n 3, 1) := by decide +kernel
theorem dX9_kinds_32 : decode cX9_kinds 32 = .ok (.invokestatic 305, 3) := by decide +kernel
theorem dX9_kinds_35 : decode cX9_kinds 35 = .ok (.ifCond .eq 14, 3) := by decide +kernel
theorem dX9_kinds_38 : decode cX9_kinds 38 = .ok (.iload 4, 2) := by decide +kernel
theorem dX9_kinds_40 : decode cX9_kinds 40 = .ok (.ifCond .eq 16, 3) := by decide +kernel
theorem dX9_kinds_43 : decode cX9_kinds 43 = .ok (.iload 4, 2) := by decide +kernel
theorem dX9_kinds_45 : decode cX9_kinds 45 = .ok (.iconst 1, 1) := by decide +kernel
theorem dX9_kinds_46 : decode cX9_kinds 46 = .ok (.if_icmp .eq 10, 3) := by decide +kernel
theorem dX9_kinds_49 : decode cX9_kinds 49 = .ok (.aload_n 0, 1) := by decide +kernel
theorem dX9_kinds_50 : decode cX9_kinds 50 = .ok (.bipush (-2), 2) := by decide +kernel
theorem dX9_kinds_52 : decode cX9_kinds 52 = .ok (.invokevirtual 79, 3) := by decide +kernel
theorem dX9_kinds_55 : decode cX9_kinds 55 = .ok (.ireturn, 1) := by decide +kernel
theorem dX9_kinds_56 : decode cX9_kinds 56 = .ok (.iload 4, 2) := by decide +kernel
theorem dX9_kinds_58 : decode cX9_kinds 58 = .ok (.ifCond .ne 20, 3) := by decide +kernel
theorem dX9_kinds_61 : decode cX9_kinds 61 = .ok (.aload_n 0, 1) := by decide +kernel
theorem dX9_kinds_62 : decode cX9_kinds 62 = .ok (.getfield 46, 3) := by decide +kernel
theorem dX9_kinds_65 : decode cX9_kinds 65 = .ok (.aload_n 0, 1) := by decide +kernel
theorem dX9_kinds_66 : decode cX9_kinds 66 = .ok (.getfield 12, 3) := by decide +kernel
theorem dX9_kinds_69 : decode cX9_kinds 69 = .ok (.iload_n 1, 1) := by decide +kernel
theorem dX9_kinds_70 : decode cX9_kinds 70 = .ok (.iload_n 2, 1) := by decide +kernel
theorem dX9_kinds_71 : decode cX9_kinds 71 = .ok (.iload_n 3, 1) := by decide +kernel
theorem dX9_kinds_72 : decode cX9_kinds 72 = .ok (.invokevirtual 336, 3) := by decide +kernel
theorem dX9_kinds_75 : decode cX9_kinds 75 = .ok (.goto 17, 3) := by decide +kernel
theorem dX9_kinds_78 : decode cX9_kinds 78 = .ok (.aload_n 0, 1) := by decide +kernel
theorem dX9_kinds_79 : decode cX9_kinds 79 = .ok (.getfield 46, 3) := by decide +kernel
theorem dX9_kinds_82 : decode cX9_kinds 82 = .ok (.aload_n 0, 1) := by decide +kernel
theorem dX9_kinds_83 : decode cX9_kinds 83 = .ok (.getfield 12, 3) := by decide +kernel
theorem dX9_kinds_86 : decode cX9_kinds 86 = .ok (.iload_n 1, 1) := by decide +kernel
theorem dX9_kinds_87 : decode cX9_kinds 87 = .ok (.iload_n 2, 1) := by decide +kernel
theorem dX9_kinds_88 : decode cX9_kinds 88 = .ok (.iload_n 3, 1) := by decide +kernel
theorem dX9_kinds_89 : decode cX9_kinds 89 = .ok (.invokevirtual 340, 3) := by decide +kernel
theorem dX9_kinds_92 : decode cX9_kinds 92 = .ok (.ireturn, 1) := by decide +kernel
theorem dX9_exchanged_0 : decode cX9_exchanged 0 = .ok (.aload_n 0, 1) := by decide +kernel
theorem dX9_exchanged_1 : decode cX9_exchanged 1 = .ok (.iload_n 1, 1) := by decide +kernel
theorem dX9_exchanged_2 : decode cX9_exchanged 2 = .ok (.invokevirtual 126, 3) := by decide +kernel
theorem dX9_exchanged_5 : decode cX9_exchanged 5 = .ok (.ifCond .eq 16, 3) := by decide +kernel
theorem dX9_exchanged_8 : decode cX9_exchanged 8 = .ok (.aload_n 0, 1) := by decide +kernel
theorem dX9_exchanged_9 : decode cX9_exchanged 9 = .ok (.iload_n 2, 1) := by decide +kernel
theorem dX9_exchanged_10 : decode cX9_exchanged 10 = .ok (.invokevirtual 126, 3) := by decide +kernel
theorem dX9_exchanged_13 : decode cX9_exchanged 13 = .ok (.ifCond .eq 8, 3) := by decide +kernel
theorem dX9_exchanged_16 : decode cX9_exchanged 16 = .ok (.iload_n 1, 1) := by decide +kernel
theorem dX9_exchanged_17 : decode cX9_exchanged 17 = .ok (.iload_n 2, 1) := by decide +kernel
theorem dX9_exchanged_18 : decode cX9_exchanged 18 = .ok (.if_icmp .ne 10, 3) := by decide +kernel
theorem dX9_exchanged_21 : decode cX9_exchanged 21 = .ok (.aload_n 0, 1) := by decide +kernel
theorem dX9_exchanged_22 : decode cX9_exchanged 22 = .ok (.bipush (-2), 2) := by decide +kernel
theorem dX9_exchanged_24 : decode cX9_exchanged 24 = .ok (.invokevirtual 79, 3) := by decide +kernel
theorem dX9_exchanged_27 : decode cX9_exchanged 27 = .ok (.ireturn, 1) := by decide +kernel
theorem dX9_exchanged_28 : decode cX9_exchanged 28 = .ok (.aload_n 0, 1) := by decide +kernel
theorem dX9_exchanged_29 : decode cX9_exchanged 29 = .ok (.getfield 46, 3) := by decide +kernel
theorem dX9_exchanged_32 : decode cX9_exchanged 32 = .ok (.aload_n 0, 1) := by decide +kernel
theorem dX9_exchanged_33 : decode cX9_exchanged 33 = .ok (.getfield 12, 3) := by decide +kernel
theorem dX9_exchanged_36 : decode cX9_exchanged 36 = .ok (.iload_n 1, 1) := by decide +kernel
theorem dX9_exchanged_37 : decode cX9_exchanged 37 = .ok (.iload_n 2, 1) := by decide +kernel
theorem dX9_exchanged_38 : decode cX9_exchanged 38 = .ok (.invokevirtual 343, 3) := by decide +kernel
theorem dX9_exchanged_41 : decode cX9_exchanged 41 = .ok (.ireturn, 1) := by decide +kernel
theorem dX9_bestPair_0 : decode cX9_bestPair 0 = .ok (.aload_n 0, 1) := by decide +kernel
theorem dX9_bestPair_1 : decode cX9_bestPair 1 = .ok (.getfield 46, 3) := by decide +kernel
theorem dX9_bestPair_4 : decode cX9_bestPair 4 = .ok (.aload_n 0, 1) := by decide +kernel
theorem dX9_bestPair_5 : decode cX9_bestPair 5 = .ok (.getfield 12, 3) := by decide +kernel
theorem dX9_bestPair_8 : decode cX9_bestPair 8 = .ok (.invokevirtual 347, 3) := by decide +kernel
theorem dX9_bestPair_11 : decode cX9_bestPair 11 = .ok (.ireturn, 1) := by decide +kernel
theorem dX9_oldest_0 : decode cX9_oldest 0 = .ok (.aload_n 0, 1) := by decide +kernel
theorem dX9_oldest_1 : decode cX9_oldest 1 = .ok (.iload_n 1, 1) := by decide +kernel
theorem dX9_oldest_2 : decode cX9_oldest 2 = .ok (.invokevirtual 126, 3) := by decide +kernel
theorem dX9_oldest_5 : decode cX9_oldest 5 = .ok (.ifCond .eq 18, 3) := by decide +kernel
theorem dX9_oldest_8 : decode cX9_oldest 8 = .ok (.aload_n 0, 1) := by decide +kernel
theorem dX9_oldest_9 : decode cX9_oldest 9 = .ok (.getfield 46, 3) := by decide +kernel
theorem dX9_oldest_12 : decode cX9_oldest 12 = .ok (.aload_n 0, 1) := by decide +kernel
theorem dX9_oldest_13 : decode cX9_oldest 13 = .ok (.getfield 12, 3) := by decide +kernel
theorem dX9_oldest_16 : decode cX9_oldest 16 = .ok (.iload_n 1, 1) := by decide +kernel
theorem dX9_oldest_17 : decode cX9_oldest 17 = .ok (.invokevirtual 350, 3) := by decide +kernel
theorem dX9_oldest_20 : decode cX9_oldest 20 = .ok (.goto 9, 3) := by decide +kernel
theorem dX9_oldest_23 : decode cX9_oldest 23 = .ok (.aload_n 0, 1) := by decide +kernel
theorem dX9_oldest_24 : decode cX9_oldest 24 = .ok (.bipush (-2), 2) := by decide +kernel
theorem dX9_oldest_26 : decode cX9_oldest 26 = .ok (.invokevirtual 79, 3) := by decide +kernel
theorem dX9_oldest_29 : decode cX9_oldest 29 = .ok (.ireturn, 1) := by decide +kernel
theorem dX9_next_0 : decode cX9_next 0 = .ok (.aload_n 0, 1) := by decide +kernel
theorem dX9_next_1 : decode cX9_next 1 = .ok (.iload_n 1, 1) := by decide +kernel
theorem dX9_next_2 : decode cX9_next 2 = .ok (.invokevirtual 126, 3) := by decide +kernel
theorem dX9_next_5 : decode cX9_next 5 = .ok (.ifCond .ne 10, 3) := by decide +kernel
theorem dX9_next_8 : decode cX9_next 8 = .ok (.aload_n 0, 1) := by decide +kernel
theorem dX9_next_9 : decode cX9_next 9 = .ok (.bipush (-2), 2) := by decide +kernel
theorem dX9_next_11 : decode cX9_next 11 = .ok (.invokevirtual 79, 3) := by decide +kernel
theorem dX9_next_14 : decode cX9_next 14 = .ok (.ireturn, 1) := by decide +kernel
theorem dX9_next_15 : decode cX9_next 15 = .ok (.aload_n 0, 1) := by decide +kernel
theorem dX9_next_16 : decode cX9_next 16 = .ok (.getfield 53, 3) := by decide +kernel
theorem dX9_next_19 : decode cX9_next 19 = .ok (.aload_n 0, 1) := by decide +kernel
theorem dX9_next_20 : decode cX9_next 20 = .ok (.getfield 12, 3) := by decide +kernel
theorem dX9_next_23 : decode cX9_next 23 = .ok (.invokevirtual 353, 3) := by decide +kernel
theorem dX9_next_26 : decode cX9_next 26 = .ok (.aload_n 0, 1) := by decide +kernel
theorem dX9_next_27 : decode cX9_next 27 = .ok (.getfield 53, 3) := by decide +kernel
theorem dX9_next_30 : decode cX9_next 30 = .ok (.getfield 356, 3) := by decide +kernel
theorem dX9_next_33 : decode cX9_next 33 = .ok (.iload_n 1, 1) := by decide +kernel
theorem dX9_next_34 : decode cX9_next 34 = .ok (.iaload, 1) := by decide +kernel
theorem dX9_next_35 : decode cX9_next 35 = .ok (.ireturn, 1) := by decide +kernel
theorem dX9_swapped_0 : decode cX9_swapped 0 = .ok (.aload_n 0, 1) := by decide +kernel
theorem dX9_swapped_1 : decode cX9_swapped 1 = .ok (.getfield 53, 3) := by decide +kernel
theorem dX9_swapped_4 : decode cX9_swapped 4 = .ok (.aload_n 0, 1) := by decide +kernel
theorem dX9_swapped_5 : decode cX9_swapped 5 = .ok (.getfield 12, 3) := by decide +kernel
theorem dX9_swapped_8 : decode cX9_swapped 8 = .ok (.invokevirtual 353, 3) := by decide +kernel
theorem dX9_swapped_11 : decode cX9_swapped 11 = .ok (.aload_n 0, 1) := by decide +kernel
theorem dX9_swapped_12 : decode cX9_swapped 12 = .ok (.getfield 53, 3) := by decide +kernel
theorem dX9_swapped_15 : decode cX9_swapped 15 = .ok (.aload_n 0, 1) := by decide +kernel
theorem dX9_swapped_16 : decode cX9_swapped 16 = .ok (.getfield 12, 3) := by decide +kernel
theorem dX9_swapped_19 : decode cX9_swapped 19 = .ok (.invokevirtual 359, 3) := by decide +kernel
theorem dX9_swapped_22 : decode cX9_swapped 22 = .ok (.ireturn, 1) := by decide +kernel
theorem dX9_swap_0 : decode cX9_swap 0 = .ok (.aload_n 0, 1) := by decide +kernel
theorem dX9_swap_1 : decode cX9_swap 1 = .ok (.getfield 53, 3) := by decide +kernel
theorem dX9_swap_4 : decode cX9_swap 4 = .ok (.aload_n 0, 1) := by decide +kernel
theorem dX9_swap_5 : decode cX9_swap 5 = .ok (.getfield 12, 3) := by decide +kernel
theorem dX9_swap_8 : decode cX9_swap 8 = .ok (.invokevirtual 353, 3) := by decide +kernel
theorem dX9_swap_11 : decode cX9_swap 11 = .ok (.aload_n 0, 1) := by decide +kernel
theorem dX9_swap_12 : decode cX9_swap 12 = .ok (.getfield 53, 3) := by decide +kernel
theorem dX9_swap_15 : decode cX9_swap 15 = .ok (.aload_n 0, 1) := by decide +kernel
theorem dX9_swap_16 : decode cX9_swap 16 = .ok (.getfield 12, 3) := by decide +kernel
theorem dX9_swap_19 : decode cX9_swap 19 = .ok (.invokevirtual 359, 3) := by decide +kernel
theorem dX9_swap_22 : decode cX9_swap 22 = .ok (.istore_n 1, 1) := by decide +kernel
theorem dX9_swap_23 : decode cX9_swap 23 = .ok (.aload_n 0, 1) := by decide +kernel
theorem dX9_swap_24 : decode cX9_swap 24 = .ok (.getfield 53, 3) := by decide +kernel
theorem dX9_swap_27 : decode cX9_swap 27 = .ok (.aload_n 0, 1) := by decide +kernel
theorem dX9_swap_28 : decode cX9_swap 28 = .ok (.getfield 12, 3) := by decide +kernel
theorem dX9_swap_31 : decode cX9_swap 31 = .ok (.invokevirtual 362, 3) := by decide +kernel
theorem dX9_swap_34 : decode cX9_swap 34 = .ok (.iload_n 1, 1) := by decide +kernel
theorem dX9_swap_35 : decode cX9_swap 35 = .ok (.ireturn, 1) := by decide +kernel
theorem dX9_evening_0 : decode cX9_evening 0 = .ok (.aload_n 0, 1) := by decide +kernel
theorem dX9_evening_1 : decode cX9_evening 1 = .ok (.iload_n 1, 1) := by decide +kernel
theorem dX9_evening_2 : decode cX9_evening 2 = .ok (.invokevirtual 257, 3) := by decide +kernel
theorem dX9_evening_5 : decode cX9_evening 5 = .ok (.ifCond .eq 18, 3) := by decide +kernel
theorem dX9_evening_8 : decode cX9_evening 8 = .ok (.aload_n 0, 1) := by decide +kernel
theorem dX9_evening_9 : decode cX9_evening 9 = .ok (.getfield 25, 3) := by decide +kernel
theorem dX9_evening_12 : decode cX9_evening 12 = .ok (.aload_n 0, 1) := by decide +kernel
theorem dX9_evening_13 : decode cX9_evening 13 = .ok (.getfield 12, 3) := by decide +kernel
theorem dX9_evening_16 : decode cX9_evening 16 = .ok (.iload_n 1, 1) := by decide +kernel
theorem dX9_evening_17 : decode cX9_evening 17 = .ok (.invokevirtual 365, 3) := by decide +kernel
theorem dX9_evening_20 : decode cX9_evening 20 = .ok (.goto 9, 3) := by decide +kernel
theorem dX9_evening_23 : decode cX9_evening 23 = .ok (.aload_n 0, 1) := by decide +kernel
theorem dX9_evening_24 : decode cX9_evening 24 = .ok (.bipush (-2), 2) := by decide +kernel
theorem dX9_evening_26 : decode cX9_evening 26 = .ok (.invokevirtual 79, 3) := by decide +kernel
theorem dX9_evening_29 : decode cX9_evening 29 = .ok (.ireturn, 1) := by decide +kernel
theorem dX9_christmases_0 : decode cX9_christmases 0 = .ok (.iload_n 1, 1) := by decide +kernel
theorem dX9_christmases_1 : decode cX9_christmases 1 = .ok (.iconst 1, 1) := by decide +kernel
theorem dX9_christmases_2 : decode cX9_christmases 2 = .ok (.if_icmp .lt 9, 3) := by decide +kernel
theorem dX9_christmases_5 : decode cX9_christmases 5 = .ok (.iload_n 1, 1) := by decide +kernel
theorem dX9_christmases_6 : decode cX9_christmases 6 = .ok (.bipush 40, 2) := by decide +kernel
theorem dX9_christmases_8 : decode cX9_christmases 8 = .ok (.if_icmp .le 10, 3) := by decide +kernel
theorem dX9_christmases_11 : decode cX9_christmases 11 = .ok (.aload_n 0, 1) := by decide +kernel
theorem dX9_christmases_12 : decode cX9_christmases 12 = .ok (.bipush (-2), 2) := by decide +kernel
theorem dX9_christmases_14 : decode cX9_christmases 14 = .ok (.invokevirtual 79, 3) := by decide +kernel
theorem dX9_christmases_17 : decode cX9_christmases 17 = .ok (.ireturn, 1) := by decide +kernel
theorem dX9_christmases_18 : decode cX9_christmases 18 = .ok (.iconst 0, 1) := by decide +kernel
theorem dX9_christmases_19 : decode cX9_christmases 19 = .ok (.istore_n 2, 1) := by decide +kernel
theorem dX9_christmases_20 : decode cX9_christmases 20 = .ok (.iconst 0, 1) := by decide +kernel
theorem dX9_christmases_21 : decode cX9_christmases 21 = .ok (.istore_n 3, 1) := by decide +kernel
theorem dX9_christmases_22 : decode cX9_christmases 22 = .ok (.iload_n 3, 1) := by decide +kernel
theorem dX9_christmases_23 : decode cX9_christmases 23 = .ok (.iload_n 1, 1) := by decide +kernel
theorem dX9_christmases_24 : decode cX9_christmases 24 = .ok (.if_icmp .ge 37, 3) := by decide +kernel
theorem dX9_christmases_27 : decode cX9_christmases 27 = .ok (.iload_n 2, 1) := by decide +kernel
theorem dX9_christmases_28 : decode cX9_christmases 28 = .ok (.aload_n 0, 1) := by decide +kernel
theorem dX9_christmases_29 : decode cX9_christmases 29 = .ok (.getfield 25, 3) := by decide +kernel
theorem dX9_christmases_32 : decode cX9_christmases 32 = .ok (.aload_n 0, 1) := by decide +kernel
theorem dX9_christmases_33 : decode cX9_christmases 33 = .ok (.getfield 12, 3) := by decide +kernel
theorem dX9_christmases_36 : decode cX9_christmases 36 = .ok (.aload_n 0, 1) := by decide +kernel
theorem dX9_christmases_37 : decode cX9_christmases 37 = .ok (.getfield 12, 3) := by decide +kernel
theorem dX9_christmases_40 : decode cX9_christmases 40 = .ok (.invokevirtual 368, 3) := by decide +kernel
theorem dX9_christmases_43 : decode cX9_christmases 43 = .ok (.invokevirtual 365, 3) := by decide +kernel
theorem dX9_christmases_46 : decode cX9_christmases 46 = .ok (.iadd, 1) := by decide +kernel
theorem dX9_christmases_47 : decode cX9_christmases 47 = .ok (.istore_n 2, 1) := by decide +kernel
theorem dX9_christmases_48 : decode cX9_christmases 48 = .ok (.aload_n 0, 1) := by decide +kernel
theorem dX9_christmases_49 : decode cX9_christmases 49 = .ok (.getfield 12, 3) := by decide +kernel
theorem dX9_christmases_52 : decode cX9_christmases 52 = .ok (.invokevirtual 371, 3) := by decide +kernel
theorem dX9_christmases_55 : decode cX9_christmases 55 = .ok (.iinc 3 1, 3) := by decide +kernel
theorem dX9_christmases_58 : decode cX9_christmases 58 = .ok (.goto (-36), 3) := by decide +kernel
theorem dX9_christmases_61 : decode cX9_christmases 61 = .ok (.iload_n 2, 1) := by decide +kernel
theorem dX9_christmases_62 : decode cX9_christmases 62 = .ok (.ireturn, 1) := by decide +kernel
theorem dX9_seed_0 : decode cX9_seed 0 = .ok (.aload_n 0, 1) := by decide +kernel
theorem dX9_seed_1 : decode cX9_seed 1 = .ok (.getfield 12, 3) := by decide +kernel
theorem dX9_seed_4 : decode cX9_seed 4 = .ok (.getfield 374, 3) := by decide +kernel
theorem dX9_seed_7 : decode cX9_seed 7 = .ok (.istore_n 2, 1) := by decide +kernel
theorem dX9_seed_8 : decode cX9_seed 8 = .ok (.aload_n 0, 1) := by decide +kernel
theorem dX9_seed_9 : decode cX9_seed 9 = .ok (.getfield 12, 3) := by decide +kernel
theorem dX9_seed_12 : decode cX9_seed 12 = .ok (.iload_n 1, 1) := by decide +kernel
theorem dX9_seed_13 : decode cX9_seed 13 = .ok (.putfield 374, 3) := by decide +kernel
theorem dX9_seed_16 : decode cX9_seed 16 = .ok (.iload_n 2, 1) := by decide +kernel
theorem dX9_seed_17 : decode cX9_seed 17 = .ok (.ireturn, 1) := by decide +kernel
theorem dX9_image_0 : decode cX9_image 0 = .ok (.aload_n 0, 1) := by decide +kernel
theorem dX9_image_1 : decode cX9_image 1 = .ok (.getfield 19, 3) := by decide +kernel
theorem dX9_image_4 : decode cX9_image 4 = .ok (.aload_n 0, 1) := by decide +kernel
theorem dX9_image_5 : decode cX9_image 5 = .ok (.getfield 12, 3) := by decide +kernel
theorem dX9_image_8 : decode cX9_image 8 = .ok (.invokevirtual 213, 3) := by decide +kernel
theorem dX9_image_11 : decode cX9_image 11 = .ok (.aload_n 0, 1) := by decide +kernel
theorem dX9_image_12 : decode cX9_image 12 = .ok (.iconst 1, 1) := by decide +kernel
theorem dX9_image_13 : decode cX9_image 13 = .ok (.putfield 377, 3) := by decide +kernel
theorem dX9_image_16 : decode cX9_image 16 = .ok (.iconst 1, 1) := by decide +kernel
theorem dX9_image_17 : decode cX9_image 17 = .ok (.ireturn, 1) := by decide +kernel
theorem dX9_back_0 : decode cX9_back 0 = .ok (.aload_n 0, 1) := by decide +kernel
theorem dX9_back_1 : decode cX9_back 1 = .ok (.getfield 377, 3) := by decide +kernel
theorem dX9_back_4 : decode cX9_back 4 = .ok (.ifCond .ne 10, 3) := by decide +kernel
theorem dX9_back_7 : decode cX9_back 7 = .ok (.aload_n 0, 1) := by decide +kernel
theorem dX9_back_8 : decode cX9_back 8 = .ok (.bipush (-5), 2) := by decide +kernel
theorem dX9_back_10 : decode cX9_back 10 = .ok (.invokevirtual 79, 3) := by decide +kernel
theorem dX9_back_13 : decode cX9_back 13 = .ok (.ireturn, 1) := by decide +kernel
theorem dX9_back_14 : decode cX9_back 14 = .ok (.aload_n 0, 1) := by decide +kernel
theorem dX9_back_15 : decode cX9_back 15 = .ok (.getfield 12, 3) := by decide +kernel
theorem dX9_back_18 : decode cX9_back 18 = .ok (.aload_n 0, 1) := by decide +kernel
theorem dX9_back_19 : decode cX9_back 19 = .ok (.getfield 19, 3) := by decide +kernel
theorem dX9_back_22 : decode cX9_back 22 = .ok (.invokevirtual 213, 3) := by decide +kernel
theorem dX9_back_25 : decode cX9_back 25 = .ok (.iconst 0, 1) := by decide +kernel
theorem dX9_back_26 : decode cX9_back 26 = .ok (.istore_n 1, 1) := by decide +kernel
theorem dX9_back_27 : decode cX9_back 27 = .ok (.iload_n 1, 1) := by decide +kernel
theorem dX9_back_28 : decode cX9_back 28 = .ok (.bipush 8, 2) := by decide +kernel
theorem dX9_back_30 : decode cX9_back 30 = .ok (.if_icmp .ge 41, 3) := by decide +kernel
theorem dX9_back_33 : decode cX9_back 33 = .ok (.aload_n 0, 1) := by decide +kernel
theorem dX9_back_34 : decode cX9_back 34 = .ok (.getfield 66, 3) := by decide +kernel
theorem dX9_back_37 : decode cX9_back 37 = .ok (.iload_n 1, 1) := by decide +kernel
theorem dX9_back_38 : decode cX9_back 38 = .ok (.aaload, 1) := by decide +kernel
theorem dX9_back_39 : decode cX9_back 39 = .ok (.astore_n 2, 1) := by decide +kernel
theorem dX9_back_40 : decode cX9_back 40 = .ok (.aload_n 2, 1) := by decide +kernel
theorem dX9_back_41 : decode cX9_back 41 = .ok (.invokevirtual 102, 3) := by decide +kernel
theorem dX9_back_44 : decode cX9_back 44 = .ok (.ifCond .eq 21, 3) := by decide +kernel
theorem dX9_back_47 : decode cX9_back 47 = .ok (.aload_n 0, 1) := by decide +kernel
theorem dX9_back_48 : decode cX9_back 48 = .ok (.aload_n 2, 1) := by decide +kernel
theorem dX9_back_49 : decode cX9_back 49 = .ok (.getfield 105, 3) := by decide +kernel
theorem dX9_back_52 : decode cX9_back 52 = .ok (.bipush 10, 2) := by decide +kernel
theorem dX9_back_54 : decode cX9_back 54 = .ok (.isub, 1) := by decide +kernel
theorem dX9_back_55 : decode cX9_back 55 = .ok (.invokevirtual 126, 3) := by decide +kernel
theorem dX9_back_58 : decode cX9_back 58 = .ok (.ifCond .ne 7, 3) := by decide +kernel
theorem dX9_back_61 : decode cX9_back 61 = .ok (.aload_n 2, 1) := by decide +kernel
theorem dX9_back_62 : decode cX9_back 62 = .ok (.invokevirtual 128, 3) := by decide +kernel
theorem dX9_back_65 : decode cX9_back 65 = .ok (.iinc 1 1, 3) := by decide +kernel
theorem dX9_back_68 : decode cX9_back 68 = .ok (.goto (-41), 3) := by decide +kernel
theorem dX9_back_71 : decode cX9_back 71 = .ok (.iconst 1, 1) := by decide +kernel
theorem dX9_back_72 : decode cX9_back 72 = .ok (.ireturn, 1) := by decide +kernel
theorem dX9_status_0 : decode cX9_status 0 = .ok (.iload_n 1, 1) := by decide +kernel
theorem dX9_status_1 : decode cX9_status 1 = .ok (.tableswitch 114 0 7 #[47, 55, 66, 74, 82, 93, 101, 109], 47) := by decide +kernel
theorem dX9_status_48 : decode cX9_status 48 = .ok (.aload_n 0, 1) := by decide +kernel
theorem dX9_status_49 : decode cX9_status 49 = .ok (.getfield 12, 3) := by decide +kernel
theorem dX9_status_52 : decode cX9_status 52 = .ok (.getfield 299, 3) := by decide +kernel
theorem dX9_status_55 : decode cX9_status 55 = .ok (.ireturn, 1) := by decide +kernel
theorem dX9_status_56 : decode cX9_status 56 = .ok (.aload_n 0, 1) := by decide +kernel
theorem dX9_status_57 : decode cX9_status 57 = .ok (.getfield 12, 3) := by decide +kernel
theorem dX9_status_60 : decode cX9_status 60 = .ok (.getfield 150, 3) := by decide +kernel
theorem dX9_status_63 : decode cX9_status 63 = .ok (.invokestatic 236, 3) := by decide +kernel
theorem dX9_status_66 : decode cX9_status 66 = .ok (.ireturn, 1) := by decide +kernel
theorem dX9_status_67 : decode cX9_status 67 = .ok (.aload_n 0, 1) := by decide +kernel
theorem dX9_status_68 : decode cX9_status 68 = .ok (.getfield 12, 3) := by decide +kernel
theorem dX9_status_71 : decode cX9_status 71 = .ok (.invokevirtual 381, 3) := by decide +kernel
theorem dX9_status_74 : decode cX9_status 74 = .ok (.ireturn, 1) := by decide +kernel
theorem dX9_status_75 : decode cX9_status 75 = .ok (.aload_n 0, 1) := by decide +kernel
theorem dX9_status_76 : decode cX9_status 76 = .ok (.getfield 12, 3) := by decide +kernel
theorem dX9_status_79 : decode cX9_status 79 = .ok (.getfield 384, 3) := by decide +kernel
theorem dX9_status_82 : decode cX9_status 82 = .ok (.ireturn, 1) := by decide +kernel
theorem dX9_status_83 : decode cX9_status 83 = .ok (.aload_n 0, 1) := by decide +kernel
theorem dX9_status_84 : decode cX9_status 84 = .ok (.getfield 12, 3) := by decide +kernel
theorem dX9_status_87 : decode cX9_status 87 = .ok (.invokevirtual 387, 3) := by decide +kernel
theorem dX9_status_90 : decode cX9_status 90 = .ok (.invokestatic 236, 3) := by decide +kernel
theorem dX9_status_93 : decode cX9_status 93 = .ok (.ireturn, 1) := by decide +kernel
theorem dX9_status_94 : decode cX9_status 94 = .ok (.aload_n 0, 1) := by decide +kernel
theorem dX9_status_95 : decode cX9_status 95 = .ok (.getfield 60, 3) := by decide +kernel
theorem dX9_status_98 : decode cX9_status 98 = .ok (.getfield 209, 3) := by decide +kernel
theorem dX9_status_101 : decode cX9_status 101 = .ok (.ireturn, 1) := by decide +kernel
theorem dX9_status_102 : decode cX9_status 102 = .ok (.aload_n 0, 1) := by decide +kernel
theorem dX9_status_103 : decode cX9_status 103 = .ok (.getfield 12, 3) := by decide +kernel
theorem dX9_status_106 : decode cX9_status 106 = .ok (.getfield 374, 3) := by decide +kernel
theorem dX9_status_109 : decode cX9_status 109 = .ok (.ireturn, 1) := by decide +kernel
theorem dX9_status_110 : decode cX9_status 110 = .ok (.aload_n 0, 1) := by decide +kernel
theorem dX9_status_111 : decode cX9_status 111 = .ok (.invokevirtual 390, 3) := by decide +kernel
theorem dX9_status_114 : decode cX9_status 114 = .ok (.ireturn, 1) := by decide +kernel
theorem dX9_status_115 : decode cX9_status 115 = .ok (.aload_n 0, 1) := by decide +kernel
theorem dX9_status_116 : decode cX9_status 116 = .ok (.iload_n 1, 1) := by decide +kernel
theorem dX9_status_117 : decode cX9_status 117 = .ok (.invokevirtual 393, 3) := by decide +kernel
theorem dX9_status_120 : decode cX9_status 120 = .ok (.ireturn, 1) := by decide +kernel
theorem dX9_refusalsOf_0 : decode cX9_refusalsOf 0 = .ok (.iload_n 1, 1) := by decide +kernel
theorem dX9_refusalsOf_1 : decode cX9_refusalsOf 1 = .ok (.bipush 12, 2) := by decide +kernel
theorem dX9_refusalsOf_3 : decode cX9_refusalsOf 3 = .ok (.isub, 1) := by decide +kernel
theorem dX9_refusalsOf_4 : decode cX9_refusalsOf 4 = .ok (.istore_n 2, 1) := by decide +kernel
theorem dX9_refusalsOf_5 : decode cX9_refusalsOf 5 = .ok (.iload_n 2, 1) := by decide +kernel
theorem dX9_refusalsOf_6 : decode cX9_refusalsOf 6 = .ok (.ifCond .lt 8, 3) := by decide +kernel
theorem dX9_refusalsOf_9 : decode cX9_refusalsOf 9 = .ok (.iload_n 2, 1) := by decide +kernel
theorem dX9_refusalsOf_10 : decode cX9_refusalsOf 10 = .ok (.iconst 4, 1) := by decide +kernel
theorem dX9_refusalsOf_11 : decode cX9_refusalsOf 11 = .ok (.if_icmp .le 5, 3) := by decide +kernel
theorem dX9_refusalsOf_14 : decode cX9_refusalsOf 14 = .ok (.iconst (-1), 1) := by decide +kernel
theorem dX9_refusalsOf_15 : decode cX9_refusalsOf 15 = .ok (.ireturn, 1) := by decide +kernel
theorem dX9_refusalsOf_16 : decode cX9_refusalsOf 16 = .ok (.aload_n 0, 1) := by decide +kernel
theorem dX9_refusalsOf_17 : decode cX9_refusalsOf 17 = .ok (.getfield 70, 3) := by decide +kernel
theorem dX9_refusalsOf_20 : decode cX9_refusalsOf 20 = .ok (.iload_n 2, 1) := by decide +kernel
theorem dX9_refusalsOf_21 : decode cX9_refusalsOf 21 = .ok (.bipush (-2), 2) := by decide +kernel
theorem dX9_refusalsOf_23 : decode cX9_refusalsOf 23 = .ok (.isub, 1) := by decide +kernel
theorem dX9_refusalsOf_24 : decode cX9_refusalsOf 24 = .ok (.iaload, 1) := by decide +kernel
theorem dX9_refusalsOf_25 : decode cX9_refusalsOf 25 = .ok (.ireturn, 1) := by decide +kernel
theorem dX9_countShelvesInUse_0 : decode cX9_countShelvesInUse 0 = .ok (.iconst 0, 1) := by decide +kernel
theorem dX9_countShelvesInUse_1 : decode cX9_countShelvesInUse 1 = .ok (.istore_n 1, 1) := by decide +kernel
theorem dX9_countShelvesInUse_2 : decode cX9_countShelvesInUse 2 = .ok (.iconst 0, 1) := by decide +kernel
theorem dX9_countShelvesInUse_3 : decode cX9_countShelvesInUse 3 = .ok (.istore_n 2, 1) := by decide +kernel
theorem dX9_countShelvesInUse_4 : decode cX9_countShelvesInUse 4 = .ok (.iload_n 2, 1) := by decide +kernel
theorem dX9_countShelvesInUse_5 : decode cX9_countShelvesInUse 5 = .ok (.bipush 8, 2) := by decide +kernel
theorem dX9_countShelvesInUse_7 : decode cX9_countShelvesInUse 7 = .ok (.if_icmp .ge 24, 3) := by decide +kernel
theorem dX9_countShelvesInUse_10 : decode cX9_countShelvesInUse 10 = .ok (.aload_n 0, 1) := by decide +kernel
theorem dX9_countShelvesInUse_11 : decode cX9_countShelvesInUse 11 = .ok (.getfield 66, 3) := by decide +kernel
theorem dX9_countShelvesInUse_14 : decode cX9_countShelvesInUse 14 = .ok (.iload_n 2, 1) := by decide +kernel
theorem dX9_countShelvesInUse_15 : decode cX9_countShelvesInUse 15 = .ok (.aaload, 1) := by decide +kernel
theorem dX9_countShelvesInUse_16 : decode cX9_countShelvesInUse 16 = .ok (.invokevirtual 91, 3) := by decide +kernel
theorem dX9_countShelvesInUse_19 : decode cX9_countShelvesInUse 19 = .ok (.ifCond .ne 6, 3) := by decide +kernel
theorem dX9_countShelvesInUse_22 : decode cX9_countShelvesInUse 22 = .ok (.iinc 1 1, 3) := by decide +kernel
theorem dX9_countShelvesInUse_25 : decode cX9_countShelvesInUse 25 = .ok (.iinc 2 1, 3) := by decide +kernel
theorem dX9_countShelvesInUse_28 : decode cX9_countShelvesInUse 28 = .ok (.goto (-24), 3) := by decide +kernel
theorem dX9_countShelvesInUse_31 : decode cX9_countShelvesInUse 31 = .ok (.iload_n 1, 1) := by decide +kernel
theorem dX9_countShelvesInUse_32 : decode cX9_countShelvesInUse 32 = .ok (.ireturn, 1) := by decide +kernel
theorem dX9_refuse_0 : decode cX9_refuse 0 = .ok (.iload_n 1, 1) := by decide +kernel
theorem dX9_refuse_1 : decode cX9_refuse 1 = .ok (.bipush (-2), 2) := by decide +kernel
theorem dX9_refuse_3 : decode cX9_refuse 3 = .ok (.if_icmp .gt 20, 3) := by decide +kernel
theorem dX9_refuse_6 : decode cX9_refuse 6 = .ok (.iload_n 1, 1) := by decide +kernel
theorem dX9_refuse_7 : decode cX9_refuse 7 = .ok (.bipush (-6), 2) := by decide +kernel
theorem dX9_refuse_9 : decode cX9_refuse 9 = .ok (.if_icmp .lt 14, 3) := by decide +kernel
theorem dX9_refuse_12 : decode cX9_refuse 12 = .ok (.aload_n 0, 1) := by decide +kernel
theorem dX9_refuse_13 : decode cX9_refuse 13 = .ok (.getfield 70, 3) := by decide +kernel
theorem dX9_refuse_16 : decode cX9_refuse 16 = .ok (.iload_n 1, 1) := by decide +kernel
theorem dX9_refuse_17 : decode cX9_refuse 17 = .ok (.ineg, 1) := by decide +kernel
theorem dX9_refuse_18 : decode cX9_refuse 18 = .ok (.dup2, 1) := by decide +kernel
theorem dX9_refuse_19 : decode cX9_refuse 19 = .ok (.iaload, 1) := by decide +kernel
theorem dX9_refuse_20 : decode cX9_refuse 20 = .ok (.iconst 1, 1) := by decide +kernel
theorem dX9_refuse_21 : decode cX9_refuse 21 = .ok (.iadd, 1) := by decide +kernel
theorem dX9_refuse_22 : decode cX9_refuse 22 = .ok (.iastore, 1) := by decide +kernel
theorem dX9_refuse_23 : decode cX9_refuse 23 = .ok (.iload_n 1, 1) := by decide +kernel
theorem dX9_refuse_24 : decode cX9_refuse 24 = .ok (.ireturn, 1) := by decide +kernel
theorem dX9_isLooker_0 : decode cX9_isLooker 0 = .ok (.iload_n 1, 1) := by decide +kernel
theorem dX9_isLooker_1 : decode cX9_isLooker 1 = .ok (.ifCond .lt 18, 3) := by decide +kernel
theorem dX9_isLooker_4 : decode cX9_isLooker 4 = .ok (.iload_n 1, 1) := by decide +kernel
theorem dX9_isLooker_5 : decode cX9_isLooker 5 = .ok (.aload_n 0, 1) := by decide +kernel
theorem dX9_isLooker_6 : decode cX9_isLooker 6 = .ok (.getfield 12, 3) := by decide +kernel
theorem dX9_isLooker_9 : decode cX9_isLooker 9 = .ok (.getfield 299, 3) := by decide +kernel
theorem dX9_isLooker_12 : decode cX9_isLooker 12 = .ok (.if_icmp .ge 7, 3) := by decide +kernel
theorem dX9_isLooker_15 : decode cX9_isLooker 15 = .ok (.iconst 1, 1) := by decide +kernel
theorem dX9_isLooker_16 : decode cX9_isLooker 16 = .ok (.goto 4, 3) := by decide +kernel
theorem dX9_isLooker_19 : decode cX9_isLooker 19 = .ok (.iconst 0, 1) := by decide +kernel
theorem dX9_isLooker_20 : decode cX9_isLooker 20 = .ok (.ireturn, 1) := by decide +kernel
theorem dX9_isSet_0 : decode cX9_isSet 0 = .ok (.iload_n 1, 1) := by decide +kernel
theorem dX9_isSet_1 : decode cX9_isSet 1 = .ok (.aload_n 0, 1) := by decide +kernel
theorem dX9_isSet_2 : decode cX9_isSet 2 = .ok (.getfield 12, 3) := by decide +kernel
theorem dX9_isSet_5 : decode cX9_isSet 5 = .ok (.invokevirtual 279, 3) := by decide +kernel
theorem dX9_isSet_8 : decode cX9_isSet 8 = .ok (.iconst (-1), 1) := by decide +kernel
theorem dX9_isSet_9 : decode cX9_isSet 9 = .ok (.ixor, 1) := by decide +kernel
theorem dX9_isSet_10 : decode cX9_isSet 10 = .ok (.iand, 1) := by decide +kernel
theorem dX9_isSet_11 : decode cX9_isSet 11 = .ok (.ifCond .ne 7, 3) := by decide +kernel
theorem dX9_isSet_14 : decode cX9_isSet 14 = .ok (.iconst 1, 1) := by decide +kernel
theorem dX9_isSet_15 : decode cX9_isSet 15 = .ok (.goto 4, 3) := by decide +kernel
theorem dX9_isSet_18 : decode cX9_isSet 18 = .ok (.iconst 0, 1) := by decide +kernel
theorem dX9_isSet_19 : decode cX9_isSet 19 = .ok (.ireturn, 1) := by decide +kernel
theorem dX9_isShelf_0 : decode cX9_isShelf 0 = .ok (.iload_n 0, 1) := by decide +kernel
theorem dX9_isShelf_1 : decode cX9_isShelf 1 = .ok (.ifCond .lt 13, 3) := by decide +kernel
theorem dX9_isShelf_4 : decode cX9_isShelf 4 = .ok (.iload_n 0, 1) := by decide +kernel
theorem dX9_isShelf_5 : decode cX9_isShelf 5 = .ok (.bipush 8, 2) := by decide +kernel
theorem dX9_isShelf_7 : decode cX9_isShelf 7 = .ok (.if_icmp .ge 7, 3) := by decide +kernel
theorem dX9_isShelf_10 : decode cX9_isShelf 10 = .ok (.iconst 1, 1) := by decide +kernel
theorem dX9_isShelf_11 : decode cX9_isShelf 11 = .ok (.goto 4, 3) := by decide +kernel
theorem dX9_isShelf_14 : decode cX9_isShelf 14 = .ok (.iconst 0, 1) := by decide +kernel
theorem dX9_isShelf_15 : decode cX9_isShelf 15 = .ok (.ireturn, 1) := by decide +kernel
theorem dX9_isPlace_0 : decode cX9_isPlace 0 = .ok (.iload_n 0, 1) := by decide +kernel
theorem dX9_isPlace_1 : decode cX9_isPlace 1 = .ok (.ifCond .lt 13, 3) := by decide +kernel
theorem dX9_isPlace_4 : decode cX9_isPlace 4 = .ok (.iload_n 0, 1) := by decide +kernel
theorem dX9_isPlace_5 : decode cX9_isPlace 5 = .ok (.bipush 12, 2) := by decide +kernel
theorem dX9_isPlace_7 : decode cX9_isPlace 7 = .ok (.if_icmp .ge 7, 3) := by decide +kernel
theorem dX9_isPlace_10 : decode cX9_isPlace 10 = .ok (.iconst 1, 1) := by decide +kernel
theorem dX9_isPlace_11 : decode cX9_isPlace 11 = .ok (.goto 4, 3) := by decide +kernel
theorem dX9_isPlace_14 : decode cX9_isPlace 14 = .ok (.iconst 0, 1) := by decide +kernel
theorem dX9_isPlace_15 : decode cX9_isPlace 15 = .ok (.ireturn, 1) := by decide +kernel
theorem dX9_isPlaces_0 : decode cX9_isPlaces 0 = .ok (.iload_n 0, 1) := by decide +kernel
theorem dX9_isPlaces_1 : decode cX9_isPlaces 1 = .ok (.sipush (-4096), 3) := by decide +kernel
theorem dX9_isPlaces_4 : decode cX9_isPlaces 4 = .ok (.iand, 1) := by decide +kernel
theorem dX9_isPlaces_5 : decode cX9_isPlaces 5 = .ok (.ifCond .ne 7, 3) := by decide +kernel
theorem dX9_isPlaces_8 : decode cX9_isPlaces 8 = .ok (.iconst 1, 1) := by decide +kernel
theorem dX9_isPlaces_9 : decode cX9_isPlaces 9 = .ok (.goto 4, 3) := by decide +kernel
theorem dX9_isPlaces_12 : decode cX9_isPlaces 12 = .ok (.iconst 0, 1) := by decide +kernel
theorem dX9_isPlaces_13 : decode cX9_isPlaces 13 = .ok (.ireturn, 1) := by decide +kernel
theorem dX9_isSort_0 : decode cX9_isSort 0 = .ok (.iload_n 0, 1) := by decide +kernel
theorem dX9_isSort_1 : decode cX9_isSort 1 = .ok (.ifCond .lt 13, 3) := by decide +kernel
theorem dX9_isSort_4 : decode cX9_isSort 4 = .ok (.iload_n 0, 1) := by decide +kernel
theorem dX9_isSort_5 : decode cX9_isSort 5 = .ok (.bipush 8, 2) := by decide +kernel
theorem dX9_isSort_7 : decode cX9_isSort 7 = .ok (.if_icmp .ge 7, 3) := by decide +kernel
theorem dX9_isSort_10 : decode cX9_isSort 10 = .ok (.iconst 1, 1) := by decide +kernel
theorem dX9_isSort_11 : decode cX9_isSort 11 = .ok (.goto 4, 3) := by decide +kernel
theorem dX9_isSort_14 : decode cX9_isSort 14 = .ok (.iconst 0, 1) := by decide +kernel
theorem dX9_isSort_15 : decode cX9_isSort 15 = .ok (.ireturn, 1) := by decide +kernel
theorem dX9_isSortOrNone_0 : decode cX9_isSortOrNone 0 = .ok (.iload_n 0, 1) := by decide +kernel
theorem dX9_isSortOrNone_1 : decode cX9_isSortOrNone 1 = .ok (.iconst (-1), 1) := by decide +kernel
theorem dX9_isSortOrNone_2 : decode cX9_isSortOrNone 2 = .ok (.if_icmp .eq 10, 3) := by decide +kernel
theorem dX9_isSortOrNone_5 : decode cX9_isSortOrNone 5 = .ok (.iload_n 0, 1) := by decide +kernel
theorem dX9_isSortOrNone_6 : decode cX9_isSortOrNone 6 = .ok (.invokestatic 168, 3) := by decide +kernel
theorem dX9_isSortOrNone_9 : decode cX9_isSortOrNone 9 = .ok (.ifCond .eq 7, 3) := by decide +kernel
theorem dX9_isSortOrNone_12 : decode cX9_isSortOrNone 12 = .ok (.iconst 1, 1) := by decide +kernel
theorem dX9_isSortOrNone_13 : decode cX9_isSortOrNone 13 = .ok (.goto 4, 3) := by decide +kernel
theorem dX9_isSortOrNone_16 : decode cX9_isSortOrNone 16 = .ok (.iconst 0, 1) := by decide +kernel
theorem dX9_isSortOrNone_17 : decode cX9_isSortOrNone 17 = .ok (.ireturn, 1) := by decide +kernel
theorem dX9_isAge_0 : decode cX9_isAge 0 = .ok (.iload_n 0, 1) := by decide +kernel
theorem dX9_isAge_1 : decode cX9_isAge 1 = .ok (.ifCond .lt 13, 3) := by decide +kernel
theorem dX9_isAge_4 : decode cX9_isAge 4 = .ok (.iload_n 0, 1) := by decide +kernel
theorem dX9_isAge_5 : decode cX9_isAge 5 = .ok (.bipush 99, 2) := by decide +kernel
theorem dX9_isAge_7 : decode cX9_isAge 7 = .ok (.if_icmp .gt 7, 3) := by decide +kernel
theorem dX9_isAge_10 : decode cX9_isAge 10 = .ok (.iconst 1, 1) := by decide +kernel
theorem dX9_isAge_11 : decode cX9_isAge 11 = .ok (.goto 4, 3) := by decide +kernel
theorem dX9_isAge_14 : decode cX9_isAge 14 = .ok (.iconst 0, 1) := by decide +kernel
theorem dX9_isAge_15 : decode cX9_isAge 15 = .ok (.ireturn, 1) := by decide +kernel
theorem dX9_isHas_0 : decode cX9_isHas 0 = .ok (.iload_n 0, 1) := by decide +kernel
theorem dX9_isHas_1 : decode cX9_isHas 1 = .ok (.bipush 10, 2) := by decide +kernel
theorem dX9_isHas_3 : decode cX9_isHas 3 = .ok (.if_icmp .lt 13, 3) := by decide +kernel
theorem dX9_isHas_6 : decode cX9_isHas 6 = .ok (.iload_n 0, 1) := by decide +kernel
theorem dX9_isHas_7 : decode cX9_isHas 7 = .ok (.bipush 18, 2) := by decide +kernel
theorem dX9_isHas_9 : decode cX9_isHas 9 = .ok (.if_icmp .ge 7, 3) := by decide +kernel
theorem dX9_isHas_12 : decode cX9_isHas 12 = .ok (.iconst 1, 1) := by decide +kernel
theorem dX9_isHas_13 : decode cX9_isHas 13 = .ok (.goto 4, 3) := by decide +kernel
theorem dX9_isHas_16 : decode cX9_isHas 16 = .ok (.iconst 0, 1) := by decide +kernel
theorem dX9_isHas_17 : decode cX9_isHas 17 = .ok (.ireturn, 1) := by decide +kernel
theorem dX9_isOfKind_0 : decode cX9_isOfKind 0 = .ok (.iload_n 1, 1) := by decide +kernel
theorem dX9_isOfKind_1 : decode cX9_isOfKind 1 = .ok (.ifCond .eq 28, 3) := by decide +kernel
theorem dX9_isOfKind_4 : decode cX9_isOfKind 4 = .ok (.iload_n 0, 1) := by decide +kernel
theorem dX9_isOfKind_5 : decode cX9_isOfKind 5 = .ok (.iload_n 1, 1) := by decide +kernel
theorem dX9_isOfKind_6 : decode cX9_isOfKind 6 = .ok (.if_icmp .eq 23, 3) := by decide +kernel
theorem dX9_isOfKind_9 : decode cX9_isOfKind 9 = .ok (.iload_n 0, 1) := by decide +kernel
theorem dX9_isOfKind_10 : decode cX9_isOfKind 10 = .ok (.iconst 3, 1) := by decide +kernel
theorem dX9_isOfKind_11 : decode cX9_isOfKind 11 = .ok (.if_icmp .ne 8, 3) := by decide +kernel
theorem dX9_isOfKind_14 : decode cX9_isOfKind 14 = .ok (.iload_n 1, 1) := by decide +kernel
theorem dX9_isOfKind_15 : decode cX9_isOfKind 15 = .ok (.iconst 1, 1) := by decide +kernel
theorem dX9_isOfKind_16 : decode cX9_isOfKind 16 = .ok (.if_icmp .eq 13, 3) := by decide +kernel
theorem dX9_isOfKind_19 : decode cX9_isOfKind 19 = .ok (.iload_n 0, 1) := by decide +kernel
theorem dX9_isOfKind_20 : decode cX9_isOfKind 20 = .ok (.iconst 4, 1) := by decide +kernel
theorem dX9_isOfKind_21 : decode cX9_isOfKind 21 = .ok (.if_icmp .ne 12, 3) := by decide +kernel
theorem dX9_isOfKind_24 : decode cX9_isOfKind 24 = .ok (.iload_n 1, 1) := by decide +kernel
theorem dX9_isOfKind_25 : decode cX9_isOfKind 25 = .ok (.iconst 2, 1) := by decide +kernel
theorem dX9_isOfKind_26 : decode cX9_isOfKind 26 = .ok (.if_icmp .ne 7, 3) := by decide +kernel
theorem dX9_isOfKind_29 : decode cX9_isOfKind 29 = .ok (.iconst 1, 1) := by decide +kernel
theorem dX9_isOfKind_30 : decode cX9_isOfKind 30 = .ok (.goto 4, 3) := by decide +kernel
theorem dX9_isOfKind_33 : decode cX9_isOfKind 33 = .ok (.iconst 0, 1) := by decide +kernel
theorem dX9_isOfKind_34 : decode cX9_isOfKind 34 = .ok (.ireturn, 1) := by decide +kernel
theorem dJ6_highestOneBit_0f7a4_0 : decode cJ6_highestOneBit_0f7a4 0 = .ok (.iload_n 0, 1) := by decide +kernel
theorem dJ6_highestOneBit_0f7a4_1 : decode cJ6_highestOneBit_0f7a4 1 = .ok (.ldc 127, 2) := by decide +kernel
theorem dJ6_highestOneBit_0f7a4_3 : decode cJ6_highestOneBit_0f7a4 3 = .ok (.iload_n 0, 1) := by decide +kernel
theorem dJ6_highestOneBit_0f7a4_4 : decode cJ6_highestOneBit_0f7a4 4 = .ok (.invokestatic 51, 3) := by decide +kernel
theorem dJ6_highestOneBit_0f7a4_7 : decode cJ6_highestOneBit_0f7a4 7 = .ok (.iushr, 1) := by decide +kernel
theorem dJ6_highestOneBit_0f7a4_8 : decode cJ6_highestOneBit_0f7a4 8 = .ok (.iand, 1) := by decide +kernel
theorem dJ6_highestOneBit_0f7a4_9 : decode cJ6_highestOneBit_0f7a4 9 = .ok (.ireturn, 1) := by decide +kernel
theorem dJ6_lowestOneBit_0f7a4_0 : decode cJ6_lowestOneBit_0f7a4 0 = .ok (.iload_n 0, 1) := by decide +kernel
theorem dJ6_lowestOneBit_0f7a4_1 : decode cJ6_lowestOneBit_0f7a4 1 = .ok (.iload_n 0, 1) := by decide +kernel
theorem dJ6_lowestOneBit_0f7a4_2 : decode cJ6_lowestOneBit_0f7a4 2 = .ok (.ineg, 1) := by decide +kernel
theorem dJ6_lowestOneBit_0f7a4_3 : decode cJ6_lowestOneBit_0f7a4 3 = .ok (.iand, 1) := by decide +kernel
theorem dJ6_lowestOneBit_0f7a4_4 : decode cJ6_lowestOneBit_0f7a4 4 = .ok (.ireturn, 1) := by decide +kernel
theorem dJ6_numberOfLeadingZeros_0f7a4_0 : decode cJ6_numberOfLeadingZeros_0f7a4 0 = .ok (.iload_n 0, 1) := by decide +kernel
theorem dJ6_numberOfLeadingZeros_0f7a4_1 : decode cJ6_numberOfLeadingZeros_0f7a4 1 = .ok (.ifCond .gt 14, 3) := by decide +kernel
theorem dJ6_numberOfLeadingZeros_0f7a4_4 : decode cJ6_numberOfLeadingZeros_0f7a4 4 = .ok (.iload_n 0, 1) := by decide +kernel
theorem dJ6_numberOfLeadingZeros_0f7a4_5 : decode cJ6_numberOfLeadingZeros_0f7a4 5 = .ok (.ifCond .ne 8, 3) := by decide +kernel
theorem dJ6_numberOfLeadingZeros_0f7a4_8 : decode cJ6_numberOfLeadingZeros_0f7a4 8 = .ok (.bipush 32, 2) := by decide +kernel
theorem dJ6_numberOfLeadingZeros_0f7a4_10 : decode cJ6_numberOfLeadingZeros_0f7a4 10 = .ok (.goto 4, 3) := by decide +kernel
theorem dJ6_numberOfLeadingZeros_0f7a4_13 : decode cJ6_numberOfLeadingZeros_0f7a4 13 = .ok (.iconst 0, 1) := by decide +kernel
theorem dJ6_numberOfLeadingZeros_0f7a4_14 : decode cJ6_numberOfLeadingZeros_0f7a4 14 = .ok (.ireturn, 1) := by decide +kernel
theorem dJ6_numberOfLeadingZeros_0f7a4_15 : decode cJ6_numberOfLeadingZeros_0f7a4 15 = .ok (.bipush 31, 2) := by decide +kernel
theorem dJ6_numberOfLeadingZeros_0f7a4_17 : decode cJ6_numberOfLeadingZeros_0f7a4 17 = .ok (.istore_n 1, 1) := by decide +kernel
theorem dJ6_numberOfLeadingZeros_0f7a4_18 : decode cJ6_numberOfLeadingZeros_0f7a4 18 = .ok (.iload_n 0, 1) := by decide +kernel
theorem dJ6_numberOfLeadingZeros_0f7a4_19 : decode cJ6_numberOfLeadingZeros_0f7a4 19 = .ok (.ldc_w 264, 3) := by decide +kernel
theorem dJ6_numberOfLeadingZeros_0f7a4_22 : decode cJ6_numberOfLeadingZeros_0f7a4 22 = .ok (.if_icmp .lt 11, 3) := by decide +kernel
theorem dJ6_numberOfLeadingZeros_0f7a4_25 : decode cJ6_numberOfLeadingZeros_0f7a4 25 = .ok (.iinc 1 (-16), 3) := by decide +kernel
theorem dJ6_numberOfLeadingZeros_0f7a4_28 : decode cJ6_numberOfLeadingZeros_0f7a4 28 = .ok (.iload_n 0, 1) := by decide +kernel
theorem dJ6_numberOfLeadingZeros_0f7a4_29 : decode cJ6_numberOfLeadingZeros_0f7a4 29 = .ok (.bipush 16, 2) := by decide +kernel
theorem dJ6_numberOfLeadingZeros_0f7a4_31 : decode cJ6_numberOfLeadingZeros_0f7a4 31 = .ok (.iushr, 1) := by decide +kernel
theorem dJ6_numberOfLeadingZeros_0f7a4_32 : decode cJ6_numberOfLeadingZeros_0f7a4 32 = .ok (.istore_n 0, 1) := by decide +kernel
theorem dJ6_numberOfLeadingZeros_0f7a4_33 : decode cJ6_numberOfLeadingZeros_0f7a4 33 = .ok (.iload_n 0, 1) := by decide +kernel
theorem dJ6_numberOfLeadingZeros_0f7a4_34 : decode cJ6_numberOfLeadingZeros_0f7a4 34 = .ok (.sipush 256, 3) := by decide +kernel
theorem dJ6_numberOfLeadingZeros_0f7a4_37 : decode cJ6_numberOfLeadingZeros_0f7a4 37 = .ok (.if_icmp .lt 11, 3) := by decide +kernel
theorem dJ6_numberOfLeadingZeros_0f7a4_40 : decode cJ6_numberOfLeadingZeros_0f7a4 40 = .ok (.iinc 1 (-8), 3) := by decide +kernel
theorem dJ6_numberOfLeadingZeros_0f7a4_43 : decode cJ6_numberOfLeadingZeros_0f7a4 43 = .ok (.iload_n 0, 1) := by decide +kernel
theorem dJ6_numberOfLeadingZeros_0f7a4_44 : decode cJ6_numberOfLeadingZeros_0f7a4 44 = .ok (.bipush 8, 2) := by decide +kernel
theorem dJ6_numberOfLeadingZeros_0f7a4_46 : decode cJ6_numberOfLeadingZeros_0f7a4 46 = .ok (.iushr, 1) := by decide +kernel
theorem dJ6_numberOfLeadingZeros_0f7a4_47 : decode cJ6_numberOfLeadingZeros_0f7a4 47 = .ok (.istore_n 0, 1) := by decide +kernel
theorem dJ6_numberOfLeadingZeros_0f7a4_48 : decode cJ6_numberOfLeadingZeros_0f7a4 48 = .ok (.iload_n 0, 1) := by decide +kernel
theorem dJ6_numberOfLeadingZeros_0f7a4_49 : decode cJ6_numberOfLeadingZeros_0f7a4 49 = .ok (.bipush 16, 2) := by decide +kernel
theorem dJ6_numberOfLeadingZeros_0f7a4_51 : decode cJ6_numberOfLeadingZeros_0f7a4 51 = .ok (.if_icmp .lt 10, 3) := by decide +kernel
theorem dJ6_numberOfLeadingZeros_0f7a4_54 : decode cJ6_numberOfLeadingZeros_0f7a4 54 = .ok (.iinc 1 (-4), 3) := by decide +kernel
theorem dJ6_numberOfLeadingZeros_0f7a4_57 : decode cJ6_numberOfLeadingZeros_0f7a4 57 = .ok (.iload_n 0, 1) := by decide +kernel
theorem dJ6_numberOfLeadingZeros_0f7a4_58 : decode cJ6_numberOfLeadingZeros_0f7a4 58 = .ok (.iconst 4, 1) := by decide +kernel
theorem dJ6_numberOfLeadingZeros_0f7a4_59 : decode cJ6_numberOfLeadingZeros_0f7a4 59 = .ok (.iushr, 1) := by decide +kernel
theorem dJ6_numberOfLeadingZeros_0f7a4_60 : decode cJ6_numberOfLeadingZeros_0f7a4 60 = .ok (.istore_n 0, 1) := by decide +kernel
theorem dJ6_numberOfLeadingZeros_0f7a4_61 : decode cJ6_numberOfLeadingZeros_0f7a4 61 = .ok (.iload_n 0, 1) := by decide +kernel
theorem dJ6_numberOfLeadingZeros_0f7a4_62 : decode cJ6_numberOfLeadingZeros_0f7a4 62 = .ok (.iconst 4, 1) := by decide +kernel
theorem dJ6_numberOfLeadingZeros_0f7a4_63 : decode cJ6_numberOfLeadingZeros_0f7a4 63 = .ok (.if_icmp .lt 10, 3) := by decide +kernel
theorem dJ6_numberOfLeadingZeros_0f7a4_66 : decode cJ6_numberOfLeadingZeros_0f7a4 66 = .ok (.iinc 1 (-2), 3) := by decide +kernel
theorem dJ6_numberOfLeadingZeros_0f7a4_69 : decode cJ6_numberOfLeadingZeros_0f7a4 69 = .ok (.iload_n 0, 1) := by decide +kernel
theorem dJ6_numberOfLeadingZeros_0f7a4_70 : decode cJ6_numberOfLeadingZeros_0f7a4 70 = .ok (.iconst 2, 1) := by decide +kernel
theorem dJ6_numberOfLeadingZeros_0f7a4_71 : decode cJ6_numberOfLeadingZeros_0f7a4 71 = .ok (.iushr, 1) := by decide +kernel
theorem dJ6_numberOfLeadingZeros_0f7a4_72 : decode cJ6_numberOfLeadingZeros_0f7a4 72 = .ok (.istore_n 0, 1) := by decide +kernel
theorem dJ6_numberOfLeadingZeros_0f7a4_73 : decode cJ6_numberOfLeadingZeros_0f7a4 73 = .ok (.iload_n 1, 1) := by decide +kernel
theorem dJ6_numberOfLeadingZeros_0f7a4_74 : decode cJ6_numberOfLeadingZeros_0f7a4 74 = .ok (.iload_n 0, 1) := by decide +kernel
theorem dJ6_numberOfLeadingZeros_0f7a4_75 : decode cJ6_numberOfLeadingZeros_0f7a4 75 = .ok (.iconst 1, 1) := by decide +kernel
theorem dJ6_numberOfLeadingZeros_0f7a4_76 : decode cJ6_numberOfLeadingZeros_0f7a4 76 = .ok (.iushr, 1) := by decide +kernel
theorem dJ6_numberOfLeadingZeros_0f7a4_77 : decode cJ6_numberOfLeadingZeros_0f7a4 77 = .ok (.isub, 1) := by decide +kernel
theorem dJ6_numberOfLeadingZeros_0f7a4_78 : decode cJ6_numberOfLeadingZeros_0f7a4 78 = .ok (.ireturn, 1) := by decide +kernel
theorem dJ6_numberOfTrailingZeros_0f7a4_0 : decode cJ6_numberOfTrailingZeros_0f7a4 0 = .ok (.iload_n 0, 1) := by decide +kernel
theorem dJ6_numberOfTrailingZeros_0f7a4_1 : decode cJ6_numberOfTrailingZeros_0f7a4 1 = .ok (.iconst (-1), 1) := by decide +kernel
theorem dJ6_numberOfTrailingZeros_0f7a4_2 : decode cJ6_numberOfTrailingZeros_0f7a4 2 = .ok (.ixor, 1) := by decide +kernel
theorem dJ6_numberOfTrailingZeros_0f7a4_3 : decode cJ6_numberOfTrailingZeros_0f7a4 3 = .ok (.iload_n 0, 1) := by decide +kernel
theorem dJ6_numberOfTrailingZeros_0f7a4_4 : decode cJ6_numberOfTrailingZeros_0f7a4 4 = .ok (.iconst 1, 1) := by decide +kernel
theorem dJ6_numberOfTrailingZeros_0f7a4_5 : decode cJ6_numberOfTrailingZeros_0f7a4 5 = .ok (.isub, 1) := by decide +kernel
theorem dJ6_numberOfTrailingZeros_0f7a4_6 : decode cJ6_numberOfTrailingZeros_0f7a4 6 = .ok (.iand, 1) := by decide +kernel
theorem dJ6_numberOfTrailingZeros_0f7a4_7 : decode cJ6_numberOfTrailingZeros_0f7a4 7 = .ok (.istore_n 0, 1) := by decide +kernel
theorem dJ6_numberOfTrailingZeros_0f7a4_8 : decode cJ6_numberOfTrailingZeros_0f7a4 8 = .ok (.iload_n 0, 1) := by decide +kernel
theorem dJ6_numberOfTrailingZeros_0f7a4_9 : decode cJ6_numberOfTrailingZeros_0f7a4 9 = .ok (.ifCond .gt 8, 3) := by decide +kernel
theorem dJ6_numberOfTrailingZeros_0f7a4_12 : decode cJ6_numberOfTrailingZeros_0f7a4 12 = .ok (.iload_n 0, 1) := by decide +kernel
theorem dJ6_numberOfTrailingZeros_0f7a4_13 : decode cJ6_numberOfTrailingZeros_0f7a4 13 = .ok (.bipush 32, 2) := by decide +kernel
theorem dJ6_numberOfTrailingZeros_0f7a4_15 : decode cJ6_numberOfTrailingZeros_0f7a4 15 = .ok (.iand, 1) := by decide +kernel
theorem dJ6_numberOfTrailingZeros_0f7a4_16 : decode cJ6_numberOfTrailingZeros_0f7a4 16 = .ok (.ireturn, 1) := by decide +kernel
theorem dJ6_numberOfTrailingZeros_0f7a4_17 : decode cJ6_numberOfTrailingZeros_0f7a4 17 = .ok (.iconst 1, 1) := by decide +kernel
theorem dJ6_numberOfTrailingZeros_0f7a4_18 : decode cJ6_numberOfTrailingZeros_0f7a4 18 = .ok (.istore_n 1, 1) := by decide +kernel
theorem dJ6_numberOfTrailingZeros_0f7a4_19 : decode cJ6_numberOfTrailingZeros_0f7a4 19 = .ok (.iload_n 0, 1) := by decide +kernel
theorem dJ6_numberOfTrailingZeros_0f7a4_20 : decode cJ6_numberOfTrailingZeros_0f7a4 20 = .ok (.ldc_w 264, 3) := by decide +kernel
theorem dJ6_numberOfTrailingZeros_0f7a4_23 : decode cJ6_numberOfTrailingZeros_0f7a4 23 = .ok (.if_icmp .le 11, 3) := by decide +kernel
theorem dJ6_numberOfTrailingZeros_0f7a4_26 : decode cJ6_numberOfTrailingZeros_0f7a4 26 = .ok (.iinc 1 16, 3) := by decide +kernel
theorem dJ6_numberOfTrailingZeros_0f7a4_29 : decode cJ6_numberOfTrailingZeros_0f7a4 29 = .ok (.iload_n 0, 1) := by decide +kernel
theorem dJ6_numberOfTrailingZeros_0f7a4_30 : decode cJ6_numberOfTrailingZeros_0f7a4 30 = .ok (.bipush 16, 2) := by decide +kernel
theorem dJ6_numberOfTrailingZeros_0f7a4_32 : decode cJ6_numberOfTrailingZeros_0f7a4 32 = .ok (.iushr, 1) := by decide +kernel
theorem dJ6_numberOfTrailingZeros_0f7a4_33 : decode cJ6_numberOfTrailingZeros_0f7a4 33 = .ok (.istore_n 0, 1) := by decide +kernel
theorem dJ6_numberOfTrailingZeros_0f7a4_34 : decode cJ6_numberOfTrailingZeros_0f7a4 34 = .ok (.iload_n 0, 1) := by decide +kernel
theorem dJ6_numberOfTrailingZeros_0f7a4_35 : decode cJ6_numberOfTrailingZeros_0f7a4 35 = .ok (.sipush 256, 3) := by decide +kernel
theorem dJ6_numberOfTrailingZeros_0f7a4_38 : decode cJ6_numberOfTrailingZeros_0f7a4 38 = .ok (.if_icmp .le 11, 3) := by decide +kernel
theorem dJ6_numberOfTrailingZeros_0f7a4_41 : decode cJ6_numberOfTrailingZeros_0f7a4 41 = .ok (.iinc 1 8, 3) := by decide +kernel
theorem dJ6_numberOfTrailingZeros_0f7a4_44 : decode cJ6_numberOfTrailingZeros_0f7a4 44 = .ok (.iload_n 0, 1) := by decide +kernel
theorem dJ6_numberOfTrailingZeros_0f7a4_45 : decode cJ6_numberOfTrailingZeros_0f7a4 45 = .ok (.bipush 8, 2) := by decide +kernel
theorem dJ6_numberOfTrailingZeros_0f7a4_47 : decode cJ6_numberOfTrailingZeros_0f7a4 47 = .ok (.iushr, 1) := by decide +kernel
theorem dJ6_numberOfTrailingZeros_0f7a4_48 : decode cJ6_numberOfTrailingZeros_0f7a4 48 = .ok (.istore_n 0, 1) := by decide +kernel
theorem dJ6_numberOfTrailingZeros_0f7a4_49 : decode cJ6_numberOfTrailingZeros_0f7a4 49 = .ok (.iload_n 0, 1) := by decide +kernel
theorem dJ6_numberOfTrailingZeros_0f7a4_50 : decode cJ6_numberOfTrailingZeros_0f7a4 50 = .ok (.bipush 16, 2) := by decide +kernel
theorem dJ6_numberOfTrailingZeros_0f7a4_52 : decode cJ6_numberOfTrailingZeros_0f7a4 52 = .ok (.if_icmp .le 10, 3) := by decide +kernel
theorem dJ6_numberOfTrailingZeros_0f7a4_55 : decode cJ6_numberOfTrailingZeros_0f7a4 55 = .ok (.iinc 1 4, 3) := by decide +kernel
theorem dJ6_numberOfTrailingZeros_0f7a4_58 : decode cJ6_numberOfTrailingZeros_0f7a4 58 = .ok (.iload_n 0, 1) := by decide +kernel
theorem dJ6_numberOfTrailingZeros_0f7a4_59 : decode cJ6_numberOfTrailingZeros_0f7a4 59 = .ok (.iconst 4, 1) := by decide +kernel
theorem dJ6_numberOfTrailingZeros_0f7a4_60 : decode cJ6_numberOfTrailingZeros_0f7a4 60 = .ok (.iushr, 1) := by decide +kernel
theorem dJ6_numberOfTrailingZeros_0f7a4_61 : decode cJ6_numberOfTrailingZeros_0f7a4 61 = .ok (.istore_n 0, 1) := by decide +kernel
theorem dJ6_numberOfTrailingZeros_0f7a4_62 : decode cJ6_numberOfTrailingZeros_0f7a4 62 = .ok (.iload_n 0, 1) := by decide +kernel
theorem dJ6_numberOfTrailingZeros_0f7a4_63 : decode cJ6_numberOfTrailingZeros_0f7a4 63 = .ok (.iconst 4, 1) := by decide +kernel
theorem dJ6_numberOfTrailingZeros_0f7a4_64 : decode cJ6_numberOfTrailingZeros_0f7a4 64 = .ok (.if_icmp .le 10, 3) := by decide +kernel
theorem dJ6_numberOfTrailingZeros_0f7a4_67 : decode cJ6_numberOfTrailingZeros_0f7a4 67 = .ok (.iinc 1 2, 3) := by decide +kernel
theorem dJ6_numberOfTrailingZeros_0f7a4_70 : decode cJ6_numberOfTrailingZeros_0f7a4 70 = .ok (.iload_n 0, 1) := by decide +kernel
theorem dJ6_numberOfTrailingZeros_0f7a4_71 : decode cJ6_numberOfTrailingZeros_0f7a4 71 = .ok (.iconst 2, 1) := by decide +kernel
theorem dJ6_numberOfTrailingZeros_0f7a4_72 : decode cJ6_numberOfTrailingZeros_0f7a4 72 = .ok (.iushr, 1) := by decide +kernel
theorem dJ6_numberOfTrailingZeros_0f7a4_73 : decode cJ6_numberOfTrailingZeros_0f7a4 73 = .ok (.istore_n 0, 1) := by decide +kernel
theorem dJ6_numberOfTrailingZeros_0f7a4_74 : decode cJ6_numberOfTrailingZeros_0f7a4 74 = .ok (.iload_n 1, 1) := by decide +kernel
theorem dJ6_numberOfTrailingZeros_0f7a4_75 : decode cJ6_numberOfTrailingZeros_0f7a4 75 = .ok (.iload_n 0, 1) := by decide +kernel
theorem dJ6_numberOfTrailingZeros_0f7a4_76 : decode cJ6_numberOfTrailingZeros_0f7a4 76 = .ok (.iconst 1, 1) := by decide +kernel
theorem dJ6_numberOfTrailingZeros_0f7a4_77 : decode cJ6_numberOfTrailingZeros_0f7a4 77 = .ok (.iushr, 1) := by decide +kernel
theorem dJ6_numberOfTrailingZeros_0f7a4_78 : decode cJ6_numberOfTrailingZeros_0f7a4 78 = .ok (.iadd, 1) := by decide +kernel
theorem dJ6_numberOfTrailingZeros_0f7a4_79 : decode cJ6_numberOfTrailingZeros_0f7a4 79 = .ok (.ireturn, 1) := by decide +kernel
theorem dJ6_bitCount_0f7a4_0 : decode cJ6_bitCount_0f7a4 0 = .ok (.iload_n 0, 1) := by decide +kernel
theorem dJ6_bitCount_0f7a4_1 : decode cJ6_bitCount_0f7a4 1 = .ok (.iload_n 0, 1) := by decide +kernel
theorem dJ6_bitCount_0f7a4_2 : decode cJ6_bitCount_0f7a4 2 = .ok (.iconst 1, 1) := by decide +kernel
theorem dJ6_bitCount_0f7a4_3 : decode cJ6_bitCount_0f7a4 3 = .ok (.iushr, 1) := by decide +kernel
theorem dJ6_bitCount_0f7a4_4 : decode cJ6_bitCount_0f7a4 4 = .ok (.ldc_w 265, 3) := by decide +kernel
theorem dJ6_bitCount_0f7a4_7 : decode cJ6_bitCount_0f7a4 7 = .ok (.iand, 1) := by decide +kernel
theorem dJ6_bitCount_0f7a4_8 : decode cJ6_bitCount_0f7a4 8 = .ok (.isub, 1) := by decide +kernel
theorem dJ6_bitCount_0f7a4_9 : decode cJ6_bitCount_0f7a4 9 = .ok (.istore_n 0, 1) := by decide +kernel
theorem dJ6_bitCount_0f7a4_10 : decode cJ6_bitCount_0f7a4 10 = .ok (.iload_n 0, 1) := by decide +kernel
theorem dJ6_bitCount_0f7a4_11 : decode cJ6_bitCount_0f7a4 11 = .ok (.ldc_w 266, 3) := by decide +kernel
theorem dJ6_bitCount_0f7a4_14 : decode cJ6_bitCount_0f7a4 14 = .ok (.iand, 1) := by decide +kernel
theorem dJ6_bitCount_0f7a4_15 : decode cJ6_bitCount_0f7a4 15 = .ok (.iload_n 0, 1) := by decide +kernel
theorem dJ6_bitCount_0f7a4_16 : decode cJ6_bitCount_0f7a4 16 = .ok (.iconst 2, 1) := by decide +kernel
theorem dJ6_bitCount_0f7a4_17 : decode cJ6_bitCount_0f7a4 17 = .ok (.iushr, 1) := by decide +kernel
theorem dJ6_bitCount_0f7a4_18 : decode cJ6_bitCount_0f7a4 18 = .ok (.ldc_w 266, 3) := by decide +kernel
theorem dJ6_bitCount_0f7a4_21 : decode cJ6_bitCount_0f7a4 21 = .ok (.iand, 1) := by decide +kernel
theorem dJ6_bitCount_0f7a4_22 : decode cJ6_bitCount_0f7a4 22 = .ok (.iadd, 1) := by decide +kernel
theorem dJ6_bitCount_0f7a4_23 : decode cJ6_bitCount_0f7a4 23 = .ok (.istore_n 0, 1) := by decide +kernel
theorem dJ6_bitCount_0f7a4_24 : decode cJ6_bitCount_0f7a4 24 = .ok (.iload_n 0, 1) := by decide +kernel
theorem dJ6_bitCount_0f7a4_25 : decode cJ6_bitCount_0f7a4 25 = .ok (.iload_n 0, 1) := by decide +kernel
theorem dJ6_bitCount_0f7a4_26 : decode cJ6_bitCount_0f7a4 26 = .ok (.iconst 4, 1) := by decide +kernel
theorem dJ6_bitCount_0f7a4_27 : decode cJ6_bitCount_0f7a4 27 = .ok (.iushr, 1) := by decide +kernel
theorem dJ6_bitCount_0f7a4_28 : decode cJ6_bitCount_0f7a4 28 = .ok (.iadd, 1) := by decide +kernel
theorem dJ6_bitCount_0f7a4_29 : decode cJ6_bitCount_0f7a4 29 = .ok (.ldc_w 267, 3) := by decide +kernel
theorem dJ6_bitCount_0f7a4_32 : decode cJ6_bitCount_0f7a4 32 = .ok (.iand, 1) := by decide +kernel
theorem dJ6_bitCount_0f7a4_33 : decode cJ6_bitCount_0f7a4 33 = .ok (.istore_n 0, 1) := by decide +kernel
theorem dJ6_bitCount_0f7a4_34 : decode cJ6_bitCount_0f7a4 34 = .ok (.iload_n 0, 1) := by decide +kernel
theorem dJ6_bitCount_0f7a4_35 : decode cJ6_bitCount_0f7a4 35 = .ok (.iload_n 0, 1) := by decide +kernel
theorem dJ6_bitCount_0f7a4_36 : decode cJ6_bitCount_0f7a4 36 = .ok (.bipush 8, 2) := by decide +kernel
theorem dJ6_bitCount_0f7a4_38 : decode cJ6_bitCount_0f7a4 38 = .ok (.iushr, 1) := by decide +kernel
theorem dJ6_bitCount_0f7a4_39 : decode cJ6_bitCount_0f7a4 39 = .ok (.iadd, 1) := by decide +kernel
theorem dJ6_bitCount_0f7a4_40 : decode cJ6_bitCount_0f7a4 40 = .ok (.istore_n 0, 1) := by decide +kernel
theorem dJ6_bitCount_0f7a4_41 : decode cJ6_bitCount_0f7a4 41 = .ok (.iload_n 0, 1) := by decide +kernel
theorem dJ6_bitCount_0f7a4_42 : decode cJ6_bitCount_0f7a4 42 = .ok (.iload_n 0, 1) := by decide +kernel
theorem dJ6_bitCount_0f7a4_43 : decode cJ6_bitCount_0f7a4 43 = .ok (.bipush 16, 2) := by decide +kernel
theorem dJ6_bitCount_0f7a4_45 : decode cJ6_bitCount_0f7a4 45 = .ok (.iushr, 1) := by decide +kernel
theorem dJ6_bitCount_0f7a4_46 : decode cJ6_bitCount_0f7a4 46 = .ok (.iadd, 1) := by decide +kernel
theorem dJ6_bitCount_0f7a4_47 : decode cJ6_bitCount_0f7a4 47 = .ok (.istore_n 0, 1) := by decide +kernel
theorem dJ6_bitCount_0f7a4_48 : decode cJ6_bitCount_0f7a4 48 = .ok (.iload_n 0, 1) := by decide +kernel
theorem dJ6_bitCount_0f7a4_49 : decode cJ6_bitCount_0f7a4 49 = .ok (.bipush 63, 2) := by decide +kernel
theorem dJ6_bitCount_0f7a4_51 : decode cJ6_bitCount_0f7a4 51 = .ok (.iand, 1) := by decide +kernel
theorem dJ6_bitCount_0f7a4_52 : decode cJ6_bitCount_0f7a4 52 = .ok (.ireturn, 1) := by decide +kernel
theorem dJ9_max_7cf53_0 : decode cJ9_max_7cf53 0 = .ok (.iload_n 0, 1) := by decide +kernel
theorem dJ9_max_7cf53_1 : decode cJ9_max_7cf53 1 = .ok (.iload_n 1, 1) := by decide +kernel
theorem dJ9_max_7cf53_2 : decode cJ9_max_7cf53 2 = .ok (.if_icmp .lt 7, 3) := by decide +kernel
theorem dJ9_max_7cf53_5 : decode cJ9_max_7cf53 5 = .ok (.iload_n 0, 1) := by decide +kernel
theorem dJ9_max_7cf53_6 : decode cJ9_max_7cf53 6 = .ok (.goto 4, 3) := by decide +kernel
theorem dJ9_max_7cf53_9 : decode cJ9_max_7cf53 9 = .ok (.iload_n 1, 1) := by decide +kernel
theorem dJ9_max_7cf53_10 : decode cJ9_max_7cf53 10 = .ok (.ireturn, 1) := by decide +kernel
theorem dJ9_min_7cf53_0 : decode cJ9_min_7cf53 0 = .ok (.iload_n 0, 1) := by decide +kernel
theorem dJ9_min_7cf53_1 : decode cJ9_min_7cf53 1 = .ok (.iload_n 1, 1) := by decide +kernel
theorem dJ9_min_7cf53_2 : decode cJ9_min_7cf53 2 = .ok (.if_icmp .gt 7, 3) := by decide +kernel
theorem dJ9_min_7cf53_5 : decode cJ9_min_7cf53 5 = .ok (.iload_n 0, 1) := by decide +kernel
theorem dJ9_min_7cf53_6 : decode cJ9_min_7cf53 6 = .ok (.goto 4, 3) := by decide +kernel
theorem dJ9_min_7cf53_9 : decode cJ9_min_7cf53 9 = .ok (.iload_n 1, 1) := by decide +kernel
theorem dJ9_min_7cf53_10 : decode cJ9_min_7cf53 10 = .ok (.ireturn, 1) := by decide +kernel
theorem dJ0_length_8abf5_0 : decode cJ0_length_8abf5 0 = .ok (.aload_n 0, 1) := by decide +kernel
theorem dJ0_length_8abf5_1 : decode cJ0_length_8abf5 1 = .ok (.getfield 9, 3) := by decide +kernel
theorem dJ0_length_8abf5_4 : decode cJ0_length_8abf5 4 = .ok (.arraylength, 1) := by decide +kernel
theorem dJ0_length_8abf5_5 : decode cJ0_length_8abf5 5 = .ok (.aload_n 0, 1) := by decide +kernel
theorem dJ0_length_8abf5_6 : decode cJ0_length_8abf5 6 = .ok (.invokevirtual 335, 3) := by decide +kernel
theorem dJ0_length_8abf5_9 : decode cJ0_length_8abf5 9 = .ok (.ishr, 1) := by decide +kernel
theorem dJ0_length_8abf5_10 : decode cJ0_length_8abf5 10 = .ok (.ireturn, 1) := by decide +kernel
theorem dJ0_charAt_5068e_0 : decode cJ0_charAt_5068e 0 = .ok (.aload_n 0, 1) := by decide +kernel
theorem dJ0_charAt_5068e_1 : decode cJ0_charAt_5068e 1 = .ok (.invokevirtual 492, 3) := by decide +kernel
theorem dJ0_charAt_5068e_4 : decode cJ0_charAt_5068e 4 = .ok (.ifCond .eq 12, 3) := by decide +kernel
theorem dJ0_charAt_5068e_7 : decode cJ0_charAt_5068e 7 = .ok (.aload_n 0, 1) := by decide +kernel
theorem dJ0_charAt_5068e_8 : decode cJ0_charAt_5068e 8 = .ok (.getfield 9, 3) := by decide +kernel
theorem dJ0_charAt_5068e_11 : decode cJ0_charAt_5068e 11 = .ok (.iload_n 1, 1) := by decide +kernel
theorem dJ0_charAt_5068e_12 : decode cJ0_charAt_5068e 12 = .ok (.invokestatic 495, 3) := by decide +kernel
theorem dJ0_charAt_5068e_15 : decode cJ0_charAt_5068e 15 = .ok (.ireturn, 1) := by decide +kernel
theorem dJ0_charAt_5068e_16 : decode cJ0_charAt_5068e 16 = .ok (.aload_n 0, 1) := by decide +kernel
theorem dJ0_charAt_5068e_17 : decode cJ0_charAt_5068e 17 = .ok (.getfield 9, 3) := by decide +kernel
theorem dJ0_charAt_5068e_20 : decode cJ0_charAt_5068e 20 = .ok (.iload_n 1, 1) := by decide +kernel
theorem dJ0_charAt_5068e_21 : decode cJ0_charAt_5068e 21 = .ok (.invokestatic 498, 3) := by decide +kernel
theorem dJ0_charAt_5068e_24 : decode cJ0_charAt_5068e 24 = .ok (.ireturn, 1) := by decide +kernel
theorem dJ0_coder_7d493_0 : decode cJ0_coder_7d493 0 = .ok (.getstatic 38, 3) := by decide +kernel
theorem dJ0_coder_7d493_3 : decode cJ0_coder_7d493 3 = .ok (.ifCond .eq 10, 3) := by decide +kernel
theorem dJ0_coder_7d493_6 : decode cJ0_coder_7d493 6 = .ok (.aload_n 0, 1) := by decide +kernel
theorem dJ0_coder_7d493_7 : decode cJ0_coder_7d493 7 = .ok (.getfield 15, 3) := by decide +kernel
theorem dJ0_coder_7d493_10 : decode cJ0_coder_7d493 10 = .ok (.goto 4, 3) := by decide +kernel
theorem dJ0_coder_7d493_13 : decode cJ0_coder_7d493 13 = .ok (.iconst 1, 1) := by decide +kernel
theorem dJ0_coder_7d493_14 : decode cJ0_coder_7d493 14 = .ok (.ireturn, 1) := by decide +kernel
theorem dJ0_isLatin1_aae02_0 : decode cJ0_isLatin1_aae02 0 = .ok (.getstatic 38, 3) := by decide +kernel
theorem dJ0_isLatin1_aae02_3 : decode cJ0_isLatin1_aae02 3 = .ok (.ifCond .eq 14, 3) := by decide +kernel
theorem dJ0_isLatin1_aae02_6 : decode cJ0_isLatin1_aae02 6 = .ok (.aload_n 0, 1) := by decide +kernel
theorem dJ0_isLatin1_aae02_7 : decode cJ0_isLatin1_aae02 7 = .ok (.getfield 15, 3) := by decide +kernel
theorem dJ0_isLatin1_aae02_10 : decode cJ0_isLatin1_aae02 10 = .ok (.ifCond .ne 7, 3) := by decide +kernel
theorem dJ0_isLatin1_aae02_13 : decode cJ0_isLatin1_aae02 13 = .ok (.iconst 1, 1) := by decide +kernel
theorem dJ0_isLatin1_aae02_14 : decode cJ0_isLatin1_aae02 14 = .ok (.goto 4, 3) := by decide +kernel
theorem dJ0_isLatin1_aae02_17 : decode cJ0_isLatin1_aae02 17 = .ok (.iconst 0, 1) := by decide +kernel
theorem dJ0_isLatin1_aae02_18 : decode cJ0_isLatin1_aae02 18 = .ok (.ireturn, 1) := by decide +kernel
theorem dJ0_checkIndex_df160_0 : decode cJ0_checkIndex_df160 0 = .ok (.iload_n 0, 1) := by decide +kernel
theorem dJ0_checkIndex_df160_1 : decode cJ0_checkIndex_df160 1 = .ok (.iload_n 1, 1) := by decide +kernel
theorem dJ0_checkIndex_df160_2 : decode cJ0_checkIndex_df160 2 = .ok (.getstatic 1053, 3) := by decide +kernel
theorem dJ0_checkIndex_df160_5 : decode cJ0_checkIndex_df160 5 = .ok (.invokestatic 1059, 3) := by decide +kernel
theorem dJ0_checkIndex_df160_8 : decode cJ0_checkIndex_df160 8 = .ok (.pop, 1) := by decide +kernel
theorem dJ0_checkIndex_df160_9 : decode cJ0_checkIndex_df160 9 = .ok (.return_, 1) := by decide +kernel
theorem dJ1_charAt_3b067_0 : decode cJ1_charAt_3b067 0 = .ok (.iload_n 1, 1) := by decide +kernel
theorem dJ1_charAt_3b067_1 : decode cJ1_charAt_3b067 1 = .ok (.aload_n 0, 1) := by decide +kernel
theorem dJ1_charAt_3b067_2 : decode cJ1_charAt_3b067 2 = .ok (.arraylength, 1) := by decide +kernel
theorem dJ1_charAt_3b067_3 : decode cJ1_charAt_3b067 3 = .ok (.invokestatic 9, 3) := by decide +kernel
theorem dJ1_charAt_3b067_6 : decode cJ1_charAt_3b067 6 = .ok (.aload_n 0, 1) := by decide +kernel
theorem dJ1_charAt_3b067_7 : decode cJ1_charAt_3b067 7 = .ok (.iload_n 1, 1) := by decide +kernel
theorem dJ1_charAt_3b067_8 : decode cJ1_charAt_3b067 8 = .ok (.baload, 1) := by decide +kernel
theorem dJ1_charAt_3b067_9 : decode cJ1_charAt_3b067 9 = .ok (.sipush 255, 3) := by decide +kernel
theorem dJ1_charAt_3b067_12 : decode cJ1_charAt_3b067 12 = .ok (.iand, 1) := by decide +kernel
theorem dJ1_charAt_3b067_13 : decode cJ1_charAt_3b067 13 = .ok (.i2c, 1) := by decide +kernel
theorem dJ1_charAt_3b067_14 : decode cJ1_charAt_3b067 14 = .ok (.ireturn, 1) := by decide +kernel
theorem dJ2_getChar_3b067_0 : decode cJ2_getChar_3b067 0 = .ok (.getstatic 44, 3) := by decide +kernel
theorem dJ2_getChar_3b067_3 : decode cJ2_getChar_3b067 3 = .ok (.ifCond .ne 25, 3) := by decide +kernel
theorem dJ2_getChar_3b067_6 : decode cJ2_getChar_3b067 6 = .ok (.iload_n 1, 1) := by decide +kernel
theorem dJ2_getChar_3b067_7 : decode cJ2_getChar_3b067 7 = .ok (.ifCond .lt 11, 3) := by decide +kernel
theorem dJ2_getChar_3b067_10 : decode cJ2_getChar_3b067 10 = .ok (.iload_n 1, 1) := by decide +kernel
theorem dJ2_getChar_3b067_11 : decode cJ2_getChar_3b067 11 = .ok (.aload_n 0, 1) := by decide +kernel
theorem dJ2_getChar_3b067_12 : decode cJ2_getChar_3b067 12 = .ok (.invokestatic 48, 3) := by decide +kernel
theorem dJ2_getChar_3b067_15 : decode cJ2_getChar_3b067 15 = .ok (.if_icmp .lt 13, 3) := by decide +kernel
theorem dJ2_getChar_3b067_18 : decode cJ2_getChar_3b067 18 = .ok (.new 52, 3) := by decide +kernel
theorem dJ2_getChar_3b067_21 : decode cJ2_getChar_3b067 21 = .ok (.dup, 1) := by decide +kernel
theorem dJ2_getChar_3b067_22 : decode cJ2_getChar_3b067 22 = .ok (.ldc 54, 2) := by decide +kernel
theorem dJ2_getChar_3b067_24 : decode cJ2_getChar_3b067 24 = .ok (.invokespecial 56, 3) := by decide +kernel
theorem dJ2_getChar_3b067_27 : decode cJ2_getChar_3b067 27 = .ok (.athrow, 1) := by decide +kernel
theorem dJ2_getChar_3b067_28 : decode cJ2_getChar_3b067 28 = .ok (.iload_n 1, 1) := by decide +kernel
theorem dJ2_getChar_3b067_29 : decode cJ2_getChar_3b067 29 = .ok (.iconst 1, 1) := by decide +kernel
theorem dJ2_getChar_3b067_30 : decode cJ2_getChar_3b067 30 = .ok (.ishl, 1) := by decide +kernel
theorem dJ2_getChar_3b067_31 : decode cJ2_getChar_3b067 31 = .ok (.istore_n 1, 1) := by decide +kernel
theorem dJ2_getChar_3b067_32 : decode cJ2_getChar_3b067 32 = .ok (.aload_n 0, 1) := by decide +kernel
theorem dJ2_getChar_3b067_33 : decode cJ2_getChar_3b067 33 = .ok (.iload_n 1, 1) := by decide +kernel
theorem dJ2_getChar_3b067_34 : decode cJ2_getChar_3b067 34 = .ok (.iinc 1 1, 3) := by decide +kernel
theorem dJ2_getChar_3b067_37 : decode cJ2_getChar_3b067 37 = .ok (.baload, 1) := by decide +kernel
theorem dJ2_getChar_3b067_38 : decode cJ2_getChar_3b067 38 = .ok (.sipush 255, 3) := by decide +kernel
theorem dJ2_getChar_3b067_41 : decode cJ2_getChar_3b067 41 = .ok (.iand, 1) := by decide +kernel
theorem dJ2_getChar_3b067_42 : decode cJ2_getChar_3b067 42 = .ok (.getstatic 59, 3) := by decide +kernel
theorem dJ2_getChar_3b067_45 : decode cJ2_getChar_3b067 45 = .ok (.ishl, 1) := by decide +kernel
theorem dJ2_getChar_3b067_46 : decode cJ2_getChar_3b067 46 = .ok (.aload_n 0, 1) := by decide +kernel
theorem dJ2_getChar_3b067_47 : decode cJ2_getChar_3b067 47 = .ok (.iload_n 1, 1) := by decide +kernel
theorem dJ2_getChar_3b067_48 : decode cJ2_getChar_3b067 48 = .ok (.baload, 1) := by decide +kernel
theorem dJ2_getChar_3b067_49 : decode cJ2_getChar_3b067 49 = .ok (.sipush 255, 3) := by decide +kernel
theorem dJ2_getChar_3b067_52 : decode cJ2_getChar_3b067 52 = .ok (.iand, 1) := by decide +kernel
theorem dJ2_getChar_3b067_53 : decode cJ2_getChar_3b067 53 = .ok (.getstatic 63, 3) := by decide +kernel
theorem dJ2_getChar_3b067_56 : decode cJ2_getChar_3b067 56 = .ok (.ishl, 1) := by decide +kernel
theorem dJ2_getChar_3b067_57 : decode cJ2_getChar_3b067 57 = .ok (.ior, 1) := by decide +kernel
theorem dJ2_getChar_3b067_58 : decode cJ2_getChar_3b067 58 = .ok (.i2c, 1) := by decide +kernel
theorem dJ2_getChar_3b067_59 : decode cJ2_getChar_3b067 59 = .ok (.ireturn, 1) := by decide +kernel
theorem dJ2_length_9d52b_0 : decode cJ2_length_9d52b 0 = .ok (.aload_n 0, 1) := by decide +kernel
theorem dJ2_length_9d52b_1 : decode cJ2_length_9d52b 1 = .ok (.arraylength, 1) := by decide +kernel
theorem dJ2_length_9d52b_2 : decode cJ2_length_9d52b 2 = .ok (.iconst 1, 1) := by decide +kernel
theorem dJ2_length_9d52b_3 : decode cJ2_length_9d52b 3 = .ok (.ishr, 1) := by decide +kernel
theorem dJ2_length_9d52b_4 : decode cJ2_length_9d52b 4 = .ok (.ireturn, 1) := by decide +kernel
theorem dJ2_charAt_3b067_0 : decode cJ2_charAt_3b067 0 = .ok (.iload_n 1, 1) := by decide +kernel
theorem dJ2_charAt_3b067_1 : decode cJ2_charAt_3b067 1 = .ok (.aload_n 0, 1) := by decide +kernel
theorem dJ2_charAt_3b067_2 : decode cJ2_charAt_3b067 2 = .ok (.invokestatic 67, 3) := by decide +kernel
theorem dJ2_charAt_3b067_5 : decode cJ2_charAt_3b067 5 = .ok (.aload_n 0, 1) := by decide +kernel
theorem dJ2_charAt_3b067_6 : decode cJ2_charAt_3b067 6 = .ok (.iload_n 1, 1) := by decide +kernel
theorem dJ2_charAt_3b067_7 : decode cJ2_charAt_3b067 7 = .ok (.invokestatic 71, 3) := by decide +kernel
theorem dJ2_charAt_3b067_10 : decode cJ2_charAt_3b067 10 = .ok (.ireturn, 1) := by decide +kernel
theorem dJ2_checkIndex_2214a_0 : decode cJ2_checkIndex_2214a 0 = .ok (.iload_n 0, 1) := by decide +kernel
theorem dJ2_checkIndex_2214a_1 : decode cJ2_checkIndex_2214a 1 = .ok (.aload_n 1, 1) := by decide +kernel
theorem dJ2_checkIndex_2214a_2 : decode cJ2_checkIndex_2214a 2 = .ok (.invokestatic 48, 3) := by decide +kernel
theorem dJ2_checkIndex_2214a_5 : decode cJ2_checkIndex_2214a 5 = .ok (.invokestatic 414, 3) := by decide +kernel
theorem dJ2_checkIndex_2214a_8 : decode cJ2_checkIndex_2214a 8 = .ok (.return_, 1) := by decide +kernel
theorem dJ7_fill_d0a16_0 : decode cJ7_fill_d0a16 0 = .ok (.iconst 0, 1) := by decide +kernel
theorem dJ7_fill_d0a16_1 : decode cJ7_fill_d0a16 1 = .ok (.istore_n 3, 1) := by decide +kernel
theorem dJ7_fill_d0a16_2 : decode cJ7_fill_d0a16 2 = .ok (.aload_n 0, 1) := by decide +kernel
theorem dJ7_fill_d0a16_3 : decode cJ7_fill_d0a16 3 = .ok (.arraylength, 1) := by decide +kernel
theorem dJ7_fill_d0a16_4 : decode cJ7_fill_d0a16 4 = .ok (.istore 4, 2) := by decide +kernel
theorem dJ7_fill_d0a16_6 : decode cJ7_fill_d0a16 6 = .ok (.iload_n 3, 1) := by decide +kernel
theorem dJ7_fill_d0a16_7 : decode cJ7_fill_d0a16 7 = .ok (.iload 4, 2) := by decide +kernel
theorem dJ7_fill_d0a16_9 : decode cJ7_fill_d0a16 9 = .ok (.if_icmp .ge 13, 3) := by decide +kernel
theorem dJ7_fill_d0a16_12 : decode cJ7_fill_d0a16 12 = .ok (.aload_n 0, 1) := by decide +kernel
theorem dJ7_fill_d0a16_13 : decode cJ7_fill_d0a16 13 = .ok (.iload_n 3, 1) := by decide +kernel
theorem dJ7_fill_d0a16_14 : decode cJ7_fill_d0a16 14 = .ok (.lload_n 1, 1) := by decide +kernel
theorem dJ7_fill_d0a16_15 : decode cJ7_fill_d0a16 15 = .ok (.lastore, 1) := by decide +kernel
theorem dJ7_fill_d0a16_16 : decode cJ7_fill_d0a16 16 = .ok (.iinc 3 1, 3) := by decide +kernel
theorem dJ7_fill_d0a16_19 : decode cJ7_fill_d0a16 19 = .ok (.goto (-13), 3) := by decide +kernel
theorem dJ7_fill_d0a16_22 : decode cJ7_fill_d0a16 22 = .ok (.return_, 1) := by decide +kernel
theorem dJ7_fill_53178_0 : decode cJ7_fill_53178 0 = .ok (.iconst 0, 1) := by decide +kernel
theorem dJ7_fill_53178_1 : decode cJ7_fill_53178 1 = .ok (.istore_n 2, 1) := by decide +kernel
theorem dJ7_fill_53178_2 : decode cJ7_fill_53178 2 = .ok (.aload_n 0, 1) := by decide +kernel
theorem dJ7_fill_53178_3 : decode cJ7_fill_53178 3 = .ok (.arraylength, 1) := by decide +kernel
theorem dJ7_fill_53178_4 : decode cJ7_fill_53178 4 = .ok (.istore_n 3, 1) := by decide +kernel
theorem dJ7_fill_53178_5 : decode cJ7_fill_53178 5 = .ok (.iload_n 2, 1) := by decide +kernel
theorem dJ7_fill_53178_6 : decode cJ7_fill_53178 6 = .ok (.iload_n 3, 1) := by decide +kernel
theorem dJ7_fill_53178_7 : decode cJ7_fill_53178 7 = .ok (.if_icmp .ge 13, 3) := by decide +kernel
theorem dJ7_fill_53178_10 : decode cJ7_fill_53178 10 = .ok (.aload_n 0, 1) := by decide +kernel
theorem dJ7_fill_53178_11 : decode cJ7_fill_53178 11 = .ok (.iload_n 2, 1) := by decide +kernel
theorem dJ7_fill_53178_12 : decode cJ7_fill_53178 12 = .ok (.iload_n 1, 1) := by decide +kernel
theorem dJ7_fill_53178_13 : decode cJ7_fill_53178 13 = .ok (.iastore, 1) := by decide +kernel
theorem dJ7_fill_53178_14 : decode cJ7_fill_53178 14 = .ok (.iinc 2 1, 3) := by decide +kernel
theorem dJ7_fill_53178_17 : decode cJ7_fill_53178 17 = .ok (.goto (-12), 3) := by decide +kernel
theorem dJ7_fill_53178_20 : decode cJ7_fill_53178 20 = .ok (.return_, 1) := by decide +kernel
theorem dJ3_checkIndex_8e157_0 : decode cJ3_checkIndex_8e157 0 = .ok (.iload_n 0, 1) := by decide +kernel
theorem dJ3_checkIndex_8e157_1 : decode cJ3_checkIndex_8e157 1 = .ok (.ifCond .lt 8, 3) := by decide +kernel
theorem dJ3_checkIndex_8e157_4 : decode cJ3_checkIndex_8e157 4 = .ok (.iload_n 0, 1) := by decide +kernel
theorem dJ3_checkIndex_8e157_5 : decode cJ3_checkIndex_8e157 5 = .ok (.iload_n 1, 1) := by decide +kernel
theorem dJ3_checkIndex_8e157_6 : decode cJ3_checkIndex_8e157 6 = .ok (.if_icmp .lt 10, 3) := by decide +kernel
theorem dJ3_checkIndex_8e157_9 : decode cJ3_checkIndex_8e157 9 = .ok (.aload_n 2, 1) := by decide +kernel
theorem dJ3_checkIndex_8e157_10 : decode cJ3_checkIndex_8e157 10 = .ok (.iload_n 0, 1) := by decide +kernel
theorem dJ3_checkIndex_8e157_11 : decode cJ3_checkIndex_8e157 11 = .ok (.iload_n 1, 1) := by decide +kernel
theorem dJ3_checkIndex_8e157_12 : decode cJ3_checkIndex_8e157 12 = .ok (.invokestatic 95, 3) := by decide +kernel
theorem dJ3_checkIndex_8e157_15 : decode cJ3_checkIndex_8e157 15 = .ok (.athrow, 1) := by decide +kernel
theorem dJ3_checkIndex_8e157_16 : decode cJ3_checkIndex_8e157 16 = .ok (.iload_n 0, 1) := by decide +kernel
theorem dJ3_checkIndex_8e157_17 : decode cJ3_checkIndex_8e157 17 = .ok (.ireturn, 1) := by decide +kernel
