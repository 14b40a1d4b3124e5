theorem dX0_init_0 : decode cX0_init 0 = .ok (.aload_n 0, 1) := by decide +kernel
theorem dX0_init_1 : decode cX0_init 1 = .ok (.invokespecial 3, 3) := by decide +kernel
theorem dX0_init_4 : decode cX0_init 4 = .ok (.aload_n 0, 1) := by decide +kernel
theorem dX0_init_5 : decode cX0_init 5 = .ok (.aconst_null, 1) := by decide +kernel
theorem dX0_init_6 : decode cX0_init 6 = .ok (.putfield 9, 3) := by decide +kernel
theorem dX0_init_9 : decode cX0_init 9 = .ok (.aload_n 0, 1) := by decide +kernel
theorem dX0_init_10 : decode cX0_init 10 = .ok (.sipush 1890, 3) := by decide +kernel
theorem dX0_init_13 : decode cX0_init 13 = .ok (.newarray .int, 2) := by decide +kernel
theorem dX0_init_15 : decode cX0_init 15 = .ok (.putfield 15, 3) := by decide +kernel
theorem dX0_init_18 : decode cX0_init 18 = .ok (.return_, 1) := by decide +kernel
theorem dX0_follow_0 : decode cX0_follow 0 = .ok (.aload_n 1, 1) := by decide +kernel
theorem dX0_follow_1 : decode cX0_follow 1 = .ok (.aload_n 0, 1) := by decide +kernel
theorem dX0_follow_2 : decode cX0_follow 2 = .ok (.getfield 9, 3) := by decide +kernel
theorem dX0_follow_5 : decode cX0_follow 5 = .ok (.if_acmp .eq 16, 3) := by decide +kernel
theorem dX0_follow_8 : decode cX0_follow 8 = .ok (.aload_n 0, 1) := by decide +kernel
theorem dX0_follow_9 : decode cX0_follow 9 = .ok (.aload_n 1, 1) := by decide +kernel
theorem dX0_follow_10 : decode cX0_follow 10 = .ok (.putfield 9, 3) := by decide +kernel
theorem dX0_follow_13 : decode cX0_follow 13 = .ok (.aload_n 0, 1) := by decide +kernel
theorem dX0_follow_14 : decode cX0_follow 14 = .ok (.getfield 15, 3) := by decide +kernel
theorem dX0_follow_17 : decode cX0_follow 17 = .ok (.iconst 0, 1) := by decide +kernel
theorem dX0_follow_18 : decode cX0_follow 18 = .ok (.invokestatic 19, 3) := by decide +kernel
theorem dX0_follow_21 : decode cX0_follow 21 = .ok (.return_, 1) := by decide +kernel
theorem dX0_asBeggar_0 : decode cX0_asBeggar 0 = .ok (.aload_n 0, 1) := by decide +kernel
theorem dX0_asBeggar_1 : decode cX0_asBeggar 1 = .ok (.getfield 9, 3) := by decide +kernel
theorem dX0_asBeggar_4 : decode cX0_asBeggar 4 = .ok (.ifnonnull 14, 3) := by decide +kernel
theorem dX0_asBeggar_7 : decode cX0_asBeggar 7 = .ok (.iload_n 1, 1) := by decide +kernel
theorem dX0_asBeggar_8 : decode cX0_asBeggar 8 = .ok (.iload_n 2, 1) := by decide +kernel
theorem dX0_asBeggar_9 : decode cX0_asBeggar 9 = .ok (.imul, 1) := by decide +kernel
theorem dX0_asBeggar_10 : decode cX0_asBeggar 10 = .ok (.bipush 9, 2) := by decide +kernel
theorem dX0_asBeggar_12 : decode cX0_asBeggar 12 = .ok (.idiv, 1) := by decide +kernel
theorem dX0_asBeggar_13 : decode cX0_asBeggar 13 = .ok (.iload_n 3, 1) := by decide +kernel
theorem dX0_asBeggar_14 : decode cX0_asBeggar 14 = .ok (.iconst 5, 1) := by decide +kernel
theorem dX0_asBeggar_15 : decode cX0_asBeggar 15 = .ok (.idiv, 1) := by decide +kernel
theorem dX0_asBeggar_16 : decode cX0_asBeggar 16 = .ok (.iadd, 1) := by decide +kernel
theorem dX0_asBeggar_17 : decode cX0_asBeggar 17 = .ok (.ireturn, 1) := by decide +kernel
theorem dX0_asBeggar_18 : decode cX0_asBeggar 18 = .ok (.iload_n 3, 1) := by decide +kernel
theorem dX0_asBeggar_19 : decode cX0_asBeggar 19 = .ok (.bipush 9, 2) := by decide +kernel
theorem dX0_asBeggar_21 : decode cX0_asBeggar 21 = .ok (.imul, 1) := by decide +kernel
theorem dX0_asBeggar_22 : decode cX0_asBeggar 22 = .ok (.iload_n 1, 1) := by decide +kernel
theorem dX0_asBeggar_23 : decode cX0_asBeggar 23 = .ok (.iadd, 1) := by decide +kernel
theorem dX0_asBeggar_24 : decode cX0_asBeggar 24 = .ok (.iconst 1, 1) := by decide +kernel
theorem dX0_asBeggar_25 : decode cX0_asBeggar 25 = .ok (.isub, 1) := by decide +kernel
theorem dX0_asBeggar_26 : decode cX0_asBeggar 26 = .ok (.bipush 10, 2) := by decide +kernel
theorem dX0_asBeggar_28 : decode cX0_asBeggar 28 = .ok (.imul, 1) := by decide +kernel
theorem dX0_asBeggar_29 : decode cX0_asBeggar 29 = .ok (.iload_n 2, 1) := by decide +kernel
theorem dX0_asBeggar_30 : decode cX0_asBeggar 30 = .ok (.iadd, 1) := by decide +kernel
theorem dX0_asBeggar_31 : decode cX0_asBeggar 31 = .ok (.istore 4, 2) := by decide +kernel
theorem dX0_asBeggar_33 : decode cX0_asBeggar 33 = .ok (.iload 4, 2) := by decide +kernel
theorem dX0_asBeggar_35 : decode cX0_asBeggar 35 = .ok (.ifCond .lt 13, 3) := by decide +kernel
theorem dX0_asBeggar_38 : decode cX0_asBeggar 38 = .ok (.iload 4, 2) := by decide +kernel
theorem dX0_asBeggar_40 : decode cX0_asBeggar 40 = .ok (.aload_n 0, 1) := by decide +kernel
theorem dX0_asBeggar_41 : decode cX0_asBeggar 41 = .ok (.getfield 15, 3) := by decide +kernel
theorem dX0_asBeggar_44 : decode cX0_asBeggar 44 = .ok (.arraylength, 1) := by decide +kernel
theorem dX0_asBeggar_45 : decode cX0_asBeggar 45 = .ok (.if_icmp .lt 5, 3) := by decide +kernel
theorem dX0_asBeggar_48 : decode cX0_asBeggar 48 = .ok (.iconst 0, 1) := by decide +kernel
theorem dX0_asBeggar_49 : decode cX0_asBeggar 49 = .ok (.ireturn, 1) := by decide +kernel
theorem dX0_asBeggar_50 : decode cX0_asBeggar 50 = .ok (.aload_n 0, 1) := by decide +kernel
theorem dX0_asBeggar_51 : decode cX0_asBeggar 51 = .ok (.getfield 15, 3) := by decide +kernel
theorem dX0_asBeggar_54 : decode cX0_asBeggar 54 = .ok (.iload 4, 2) := by decide +kernel
theorem dX0_asBeggar_56 : decode cX0_asBeggar 56 = .ok (.iaload, 1) := by decide +kernel
theorem dX0_asBeggar_57 : decode cX0_asBeggar 57 = .ok (.ifCond .ne 28, 3) := by decide +kernel
theorem dX0_asBeggar_60 : decode cX0_asBeggar 60 = .ok (.aload_n 0, 1) := by decide +kernel
theorem dX0_asBeggar_61 : decode cX0_asBeggar 61 = .ok (.getfield 15, 3) := by decide +kernel
theorem dX0_asBeggar_64 : decode cX0_asBeggar 64 = .ok (.iload 4, 2) := by decide +kernel
theorem dX0_asBeggar_66 : decode cX0_asBeggar 66 = .ok (.iconst 1, 1) := by decide +kernel
theorem dX0_asBeggar_67 : decode cX0_asBeggar 67 = .ok (.aload_n 0, 1) := by decide +kernel
theorem dX0_asBeggar_68 : decode cX0_asBeggar 68 = .ok (.getfield 9, 3) := by decide +kernel
theorem dX0_asBeggar_71 : decode cX0_asBeggar 71 = .ok (.iload_n 1, 1) := by decide +kernel
theorem dX0_asBeggar_72 : decode cX0_asBeggar 72 = .ok (.iload_n 2, 1) := by decide +kernel
theorem dX0_asBeggar_73 : decode cX0_asBeggar 73 = .ok (.iload_n 3, 1) := by decide +kernel
theorem dX0_asBeggar_74 : decode cX0_asBeggar 74 = .ok (.invokevirtual 25, 3) := by decide +kernel
theorem dX0_asBeggar_77 : decode cX0_asBeggar 77 = .ok (.iconst 0, 1) := by decide +kernel
theorem dX0_asBeggar_78 : decode cX0_asBeggar 78 = .ok (.bipush 99, 2) := by decide +kernel
theorem dX0_asBeggar_80 : decode cX0_asBeggar 80 = .ok (.invokestatic 31, 3) := by decide +kernel
theorem dX0_asBeggar_83 : decode cX0_asBeggar 83 = .ok (.iadd, 1) := by decide +kernel
theorem dX0_asBeggar_84 : decode cX0_asBeggar 84 = .ok (.iastore, 1) := by decide +kernel
theorem dX0_asBeggar_85 : decode cX0_asBeggar 85 = .ok (.aload_n 0, 1) := by decide +kernel
theorem dX0_asBeggar_86 : decode cX0_asBeggar 86 = .ok (.getfield 15, 3) := by decide +kernel
theorem dX0_asBeggar_89 : decode cX0_asBeggar 89 = .ok (.iload 4, 2) := by decide +kernel
theorem dX0_asBeggar_91 : decode cX0_asBeggar 91 = .ok (.iaload, 1) := by decide +kernel
theorem dX0_asBeggar_92 : decode cX0_asBeggar 92 = .ok (.iconst 1, 1) := by decide +kernel
theorem dX0_asBeggar_93 : decode cX0_asBeggar 93 = .ok (.isub, 1) := by decide +kernel
theorem dX0_asBeggar_94 : decode cX0_asBeggar 94 = .ok (.ireturn, 1) := by decide +kernel
theorem dX1_isOf_0 : decode cX1_isOf 0 = .ok (.iload_n 0, 1) := by decide +kernel
theorem dX1_isOf_1 : decode cX1_isOf 1 = .ok (.istore_n 2, 1) := by decide +kernel
theorem dX1_isOf_2 : decode cX1_isOf 2 = .ok (.iconst 0, 1) := by decide +kernel
theorem dX1_isOf_3 : decode cX1_isOf 3 = .ok (.istore_n 3, 1) := by decide +kernel
theorem dX1_isOf_4 : decode cX1_isOf 4 = .ok (.iload_n 3, 1) := by decide +kernel
theorem dX1_isOf_5 : decode cX1_isOf 5 = .ok (.getstatic 7, 3) := by decide +kernel
theorem dX1_isOf_8 : decode cX1_isOf 8 = .ok (.arraylength, 1) := by decide +kernel
theorem dX1_isOf_9 : decode cX1_isOf 9 = .ok (.if_icmp .ge 36, 3) := by decide +kernel
theorem dX1_isOf_12 : decode cX1_isOf 12 = .ok (.iload_n 2, 1) := by decide +kernel
theorem dX1_isOf_13 : decode cX1_isOf 13 = .ok (.iconst 0, 1) := by decide +kernel
theorem dX1_isOf_14 : decode cX1_isOf 14 = .ok (.getstatic 7, 3) := by decide +kernel
theorem dX1_isOf_17 : decode cX1_isOf 17 = .ok (.arraylength, 1) := by decide +kernel
theorem dX1_isOf_18 : decode cX1_isOf 18 = .ok (.iconst 1, 1) := by decide +kernel
theorem dX1_isOf_19 : decode cX1_isOf 19 = .ok (.isub, 1) := by decide +kernel
theorem dX1_isOf_20 : decode cX1_isOf 20 = .ok (.invokestatic 13, 3) := by decide +kernel
theorem dX1_isOf_23 : decode cX1_isOf 23 = .ok (.ifCond .eq 22, 3) := by decide +kernel
theorem dX1_isOf_26 : decode cX1_isOf 26 = .ok (.iload_n 2, 1) := by decide +kernel
theorem dX1_isOf_27 : decode cX1_isOf 27 = .ok (.iload_n 1, 1) := by decide +kernel
theorem dX1_isOf_28 : decode cX1_isOf 28 = .ok (.if_icmp .ne 5, 3) := by decide +kernel
theorem dX1_isOf_31 : decode cX1_isOf 31 = .ok (.iconst 1, 1) := by decide +kernel
theorem dX1_isOf_32 : decode cX1_isOf 32 = .ok (.ireturn, 1) := by decide +kernel
theorem dX1_isOf_33 : decode cX1_isOf 33 = .ok (.getstatic 7, 3) := by decide +kernel
theorem dX1_isOf_36 : decode cX1_isOf 36 = .ok (.iload_n 2, 1) := by decide +kernel
theorem dX1_isOf_37 : decode cX1_isOf 37 = .ok (.iaload, 1) := by decide +kernel
theorem dX1_isOf_38 : decode cX1_isOf 38 = .ok (.istore_n 2, 1) := by decide +kernel
theorem dX1_isOf_39 : decode cX1_isOf 39 = .ok (.iinc 3 1, 3) := by decide +kernel
theorem dX1_isOf_42 : decode cX1_isOf 42 = .ok (.goto (-38), 3) := by decide +kernel
theorem dX1_isOf_45 : decode cX1_isOf 45 = .ok (.iconst 0, 1) := by decide +kernel
theorem dX1_isOf_46 : decode cX1_isOf 46 = .ok (.ireturn, 1) := by decide +kernel
theorem dX1_gift_0 : decode cX1_gift 0 = .ok (.iload_n 0, 1) := by decide +kernel
theorem dX1_gift_1 : decode cX1_gift 1 = .ok (.tableswitch 101 1 5 #[35, 62, 41, 68, 84], 35) := by decide +kernel
theorem dX1_gift_36 : decode cX1_gift 36 = .ok (.iload_n 1, 1) := by decide +kernel
theorem dX1_gift_37 : decode cX1_gift 37 = .ok (.iload_n 2, 1) := by decide +kernel
theorem dX1_gift_38 : decode cX1_gift 38 = .ok (.iconst 3, 1) := by decide +kernel
theorem dX1_gift_39 : decode cX1_gift 39 = .ok (.idiv, 1) := by decide +kernel
theorem dX1_gift_40 : decode cX1_gift 40 = .ok (.iadd, 1) := by decide +kernel
theorem dX1_gift_41 : decode cX1_gift 41 = .ok (.ireturn, 1) := by decide +kernel
theorem dX1_gift_42 : decode cX1_gift 42 = .ok (.iload 4, 2) := by decide +kernel
theorem dX1_gift_44 : decode cX1_gift 44 = .ok (.ifCond .eq 13, 3) := by decide +kernel
theorem dX1_gift_47 : decode cX1_gift 47 = .ok (.iload_n 1, 1) := by decide +kernel
theorem dX1_gift_48 : decode cX1_gift 48 = .ok (.iload_n 2, 1) := by decide +kernel
theorem dX1_gift_49 : decode cX1_gift 49 = .ok (.iconst 3, 1) := by decide +kernel
theorem dX1_gift_50 : decode cX1_gift 50 = .ok (.idiv, 1) := by decide +kernel
theorem dX1_gift_51 : decode cX1_gift 51 = .ok (.iadd, 1) := by decide +kernel
theorem dX1_gift_52 : decode cX1_gift 52 = .ok (.iconst 2, 1) := by decide +kernel
theorem dX1_gift_53 : decode cX1_gift 53 = .ok (.idiv, 1) := by decide +kernel
theorem dX1_gift_54 : decode cX1_gift 54 = .ok (.goto 8, 3) := by decide +kernel
theorem dX1_gift_57 : decode cX1_gift 57 = .ok (.iload_n 1, 1) := by decide +kernel
theorem dX1_gift_58 : decode cX1_gift 58 = .ok (.iload_n 2, 1) := by decide +kernel
theorem dX1_gift_59 : decode cX1_gift 59 = .ok (.iconst 3, 1) := by decide +kernel
theorem dX1_gift_60 : decode cX1_gift 60 = .ok (.idiv, 1) := by decide +kernel
theorem dX1_gift_61 : decode cX1_gift 61 = .ok (.iadd, 1) := by decide +kernel
theorem dX1_gift_62 : decode cX1_gift 62 = .ok (.ireturn, 1) := by decide +kernel
theorem dX1_gift_63 : decode cX1_gift 63 = .ok (.iload_n 1, 1) := by decide +kernel
theorem dX1_gift_64 : decode cX1_gift 64 = .ok (.iload_n 2, 1) := by decide +kernel
theorem dX1_gift_65 : decode cX1_gift 65 = .ok (.invokestatic 19, 3) := by decide +kernel
theorem dX1_gift_68 : decode cX1_gift 68 = .ok (.ireturn, 1) := by decide +kernel
theorem dX1_gift_69 : decode cX1_gift 69 = .ok (.iload_n 2, 1) := by decide +kernel
theorem dX1_gift_70 : decode cX1_gift 70 = .ok (.bipush 8, 2) := by decide +kernel
theorem dX1_gift_72 : decode cX1_gift 72 = .ok (.if_icmp .lt 7, 3) := by decide +kernel
theorem dX1_gift_75 : decode cX1_gift 75 = .ok (.iconst 0, 1) := by decide +kernel
theorem dX1_gift_76 : decode cX1_gift 76 = .ok (.goto 8, 3) := by decide +kernel
theorem dX1_gift_79 : decode cX1_gift 79 = .ok (.iload_n 1, 1) := by decide +kernel
theorem dX1_gift_80 : decode cX1_gift 80 = .ok (.iload_n 2, 1) := by decide +kernel
theorem dX1_gift_81 : decode cX1_gift 81 = .ok (.invokestatic 19, 3) := by decide +kernel
theorem dX1_gift_84 : decode cX1_gift 84 = .ok (.ireturn, 1) := by decide +kernel
theorem dX1_gift_85 : decode cX1_gift 85 = .ok (.iload_n 3, 1) := by decide +kernel
theorem dX1_gift_86 : decode cX1_gift 86 = .ok (.iconst 3, 1) := by decide +kernel
theorem dX1_gift_87 : decode cX1_gift 87 = .ok (.if_icmp .ge 7, 3) := by decide +kernel
theorem dX1_gift_90 : decode cX1_gift 90 = .ok (.iconst 0, 1) := by decide +kernel
theorem dX1_gift_91 : decode cX1_gift 91 = .ok (.goto 10, 3) := by decide +kernel
theorem dX1_gift_94 : decode cX1_gift 94 = .ok (.iload_n 1, 1) := by decide +kernel
theorem dX1_gift_95 : decode cX1_gift 95 = .ok (.iconst 1, 1) := by decide +kernel
theorem dX1_gift_96 : decode cX1_gift 96 = .ok (.isub, 1) := by decide +kernel
theorem dX1_gift_97 : decode cX1_gift 97 = .ok (.iconst 0, 1) := by decide +kernel
theorem dX1_gift_98 : decode cX1_gift 98 = .ok (.invokestatic 23, 3) := by decide +kernel
theorem dX1_gift_101 : decode cX1_gift 101 = .ok (.ireturn, 1) := by decide +kernel
theorem dX1_gift_102 : decode cX1_gift 102 = .ok (.iload_n 1, 1) := by decide +kernel
theorem dX1_gift_103 : decode cX1_gift 103 = .ok (.ireturn, 1) := by decide +kernel
theorem dX1_giftOfChild_0 : decode cX1_giftOfChild 0 = .ok (.iload_n 1, 1) := by decide +kernel
theorem dX1_giftOfChild_1 : decode cX1_giftOfChild 1 = .ok (.iconst 5, 1) := by decide +kernel
theorem dX1_giftOfChild_2 : decode cX1_giftOfChild 2 = .ok (.if_icmp .lt 9, 3) := by decide +kernel
theorem dX1_giftOfChild_5 : decode cX1_giftOfChild 5 = .ok (.iconst 2, 1) := by decide +kernel
theorem dX1_giftOfChild_6 : decode cX1_giftOfChild 6 = .ok (.iload_n 0, 1) := by decide +kernel
theorem dX1_giftOfChild_7 : decode cX1_giftOfChild 7 = .ok (.imul, 1) := by decide +kernel
theorem dX1_giftOfChild_8 : decode cX1_giftOfChild 8 = .ok (.goto 4, 3) := by decide +kernel
theorem dX1_giftOfChild_11 : decode cX1_giftOfChild 11 = .ok (.iload_n 0, 1) := by decide +kernel
theorem dX1_giftOfChild_12 : decode cX1_giftOfChild 12 = .ok (.ireturn, 1) := by decide +kernel
theorem dX1_worth_0 : decode cX1_worth 0 = .ok (.iload_n 0, 1) := by decide +kernel
theorem dX1_worth_1 : decode cX1_worth 1 = .ok (.tableswitch 62 1 5 #[35, 47, 40, 52, 60], 35) := by decide +kernel
theorem dX1_worth_36 : decode cX1_worth 36 = .ok (.iload_n 1, 1) := by decide +kernel
theorem dX1_worth_37 : decode cX1_worth 37 = .ok (.bipush 6, 2) := by decide +kernel
theorem dX1_worth_39 : decode cX1_worth 39 = .ok (.iadd, 1) := by decide +kernel
theorem dX1_worth_40 : decode cX1_worth 40 = .ok (.ireturn, 1) := by decide +kernel
theorem dX1_worth_41 : decode cX1_worth 41 = .ok (.iconst 2, 1) := by decide +kernel
theorem dX1_worth_42 : decode cX1_worth 42 = .ok (.iload_n 1, 1) := by decide +kernel
theorem dX1_worth_43 : decode cX1_worth 43 = .ok (.bipush 6, 2) := by decide +kernel
theorem dX1_worth_45 : decode cX1_worth 45 = .ok (.iadd, 1) := by decide +kernel
theorem dX1_worth_46 : decode cX1_worth 46 = .ok (.imul, 1) := by decide +kernel
theorem dX1_worth_47 : decode cX1_worth 47 = .ok (.ireturn, 1) := by decide +kernel
theorem dX1_worth_48 : decode cX1_worth 48 = .ok (.bipush 99, 2) := by decide +kernel
theorem dX1_worth_50 : decode cX1_worth 50 = .ok (.iload_n 1, 1) := by decide +kernel
theorem dX1_worth_51 : decode cX1_worth 51 = .ok (.isub, 1) := by decide +kernel
theorem dX1_worth_52 : decode cX1_worth 52 = .ok (.ireturn, 1) := by decide +kernel
theorem dX1_worth_53 : decode cX1_worth 53 = .ok (.bipush 99, 2) := by decide +kernel
theorem dX1_worth_55 : decode cX1_worth 55 = .ok (.iload_n 1, 1) := by decide +kernel
theorem dX1_worth_56 : decode cX1_worth 56 = .ok (.isub, 1) := by decide +kernel
theorem dX1_worth_57 : decode cX1_worth 57 = .ok (.bipush 8, 2) := by decide +kernel
theorem dX1_worth_59 : decode cX1_worth 59 = .ok (.isub, 1) := by decide +kernel
theorem dX1_worth_60 : decode cX1_worth 60 = .ok (.ireturn, 1) := by decide +kernel
theorem dX1_worth_61 : decode cX1_worth 61 = .ok (.iconst 5, 1) := by decide +kernel
theorem dX1_worth_62 : decode cX1_worth 62 = .ok (.ireturn, 1) := by decide +kernel
theorem dX1_worth_63 : decode cX1_worth 63 = .ok (.iload_n 1, 1) := by decide +kernel
theorem dX1_worth_64 : decode cX1_worth 64 = .ok (.ireturn, 1) := by decide +kernel
theorem dX2_init_0 : decode cX2_init 0 = .ok (.aload_n 0, 1) := by decide +kernel
theorem dX2_init_1 : decode cX2_init 1 = .ok (.invokespecial 3, 3) := by decide +kernel
theorem dX2_init_4 : decode cX2_init 4 = .ok (.aload_n 0, 1) := by decide +kernel
theorem dX2_init_5 : decode cX2_init 5 = .ok (.new 9, 3) := by decide +kernel
theorem dX2_init_8 : decode cX2_init 8 = .ok (.dup, 1) := by decide +kernel
theorem dX2_init_9 : decode cX2_init 9 = .ok (.invokespecial 11, 3) := by decide +kernel
theorem dX2_init_12 : decode cX2_init 12 = .ok (.putfield 12, 3) := by decide +kernel
theorem dX2_init_15 : decode cX2_init 15 = .ok (.aload_n 0, 1) := by decide +kernel
theorem dX2_init_16 : decode cX2_init 16 = .ok (.iconst 3, 1) := by decide +kernel
theorem dX2_init_17 : decode cX2_init 17 = .ok (.putfield 18, 3) := by decide +kernel
theorem dX2_init_20 : decode cX2_init 20 = .ok (.aload_n 0, 1) := by decide +kernel
theorem dX2_init_21 : decode cX2_init 21 = .ok (.iconst 0, 1) := by decide +kernel
theorem dX2_init_22 : decode cX2_init 22 = .ok (.putfield 22, 3) := by decide +kernel
theorem dX2_init_25 : decode cX2_init 25 = .ok (.aload_n 0, 1) := by decide +kernel
theorem dX2_init_26 : decode cX2_init 26 = .ok (.iconst 0, 1) := by decide +kernel
theorem dX2_init_27 : decode cX2_init 27 = .ok (.putfield 25, 3) := by decide +kernel
theorem dX2_init_30 : decode cX2_init 30 = .ok (.aload_n 0, 1) := by decide +kernel
theorem dX2_init_31 : decode cX2_init 31 = .ok (.iconst (-1), 1) := by decide +kernel
theorem dX2_init_32 : decode cX2_init 32 = .ok (.putfield 28, 3) := by decide +kernel
theorem dX2_init_35 : decode cX2_init 35 = .ok (.aload_n 0, 1) := by decide +kernel
theorem dX2_init_36 : decode cX2_init 36 = .ok (.iconst 0, 1) := by decide +kernel
theorem dX2_init_37 : decode cX2_init 37 = .ok (.putfield 31, 3) := by decide +kernel
theorem dX2_init_40 : decode cX2_init 40 = .ok (.aload_n 0, 1) := by decide +kernel
theorem dX2_init_41 : decode cX2_init 41 = .ok (.bipush 96, 2) := by decide +kernel
theorem dX2_init_43 : decode cX2_init 43 = .ok (.newarray .int, 2) := by decide +kernel
theorem dX2_init_45 : decode cX2_init 45 = .ok (.putfield 34, 3) := by decide +kernel
theorem dX2_init_48 : decode cX2_init 48 = .ok (.aload_n 0, 1) := by decide +kernel
theorem dX2_init_49 : decode cX2_init 49 = .ok (.iconst 0, 1) := by decide +kernel
theorem dX2_init_50 : decode cX2_init 50 = .ok (.putfield 38, 3) := by decide +kernel
theorem dX2_init_53 : decode cX2_init 53 = .ok (.aload_n 0, 1) := by decide +kernel
theorem dX2_init_54 : decode cX2_init 54 = .ok (.iconst 0, 1) := by decide +kernel
theorem dX2_init_55 : decode cX2_init 55 = .ok (.putfield 41, 3) := by decide +kernel
theorem dX2_init_58 : decode cX2_init 58 = .ok (.return_, 1) := by decide +kernel
theorem dX2_findFault_0 : decode cX2_findFault 0 = .ok (.aload_n 0, 1) := by decide +kernel
theorem dX2_findFault_1 : decode cX2_findFault 1 = .ok (.iconst 3, 1) := by decide +kernel
theorem dX2_findFault_2 : decode cX2_findFault 2 = .ok (.putfield 18, 3) := by decide +kernel
theorem dX2_findFault_5 : decode cX2_findFault 5 = .ok (.aload_n 0, 1) := by decide +kernel
theorem dX2_findFault_6 : decode cX2_findFault 6 = .ok (.iconst 0, 1) := by decide +kernel
theorem dX2_findFault_7 : decode cX2_findFault 7 = .ok (.putfield 25, 3) := by decide +kernel
theorem dX2_findFault_10 : decode cX2_findFault 10 = .ok (.aload_n 0, 1) := by decide +kernel
theorem dX2_findFault_11 : decode cX2_findFault 11 = .ok (.iconst (-1), 1) := by decide +kernel
theorem dX2_findFault_12 : decode cX2_findFault 12 = .ok (.putfield 28, 3) := by decide +kernel
theorem dX2_findFault_15 : decode cX2_findFault 15 = .ok (.aload_n 0, 1) := by decide +kernel
theorem dX2_findFault_16 : decode cX2_findFault 16 = .ok (.iconst 0, 1) := by decide +kernel
theorem dX2_findFault_17 : decode cX2_findFault 17 = .ok (.putfield 38, 3) := by decide +kernel
theorem dX2_findFault_20 : decode cX2_findFault 20 = .ok (.aload_n 0, 1) := by decide +kernel
theorem dX2_findFault_21 : decode cX2_findFault 21 = .ok (.iconst 0, 1) := by decide +kernel
theorem dX2_findFault_22 : decode cX2_findFault 22 = .ok (.putfield 41, 3) := by decide +kernel
theorem dX2_findFault_25 : decode cX2_findFault 25 = .ok (.aload_n 0, 1) := by decide +kernel
theorem dX2_findFault_26 : decode cX2_findFault 26 = .ok (.invokevirtual 44, 3) := by decide +kernel
theorem dX2_findFault_29 : decode cX2_findFault 29 = .ok (.aload_n 0, 1) := by decide +kernel
theorem dX2_findFault_30 : decode cX2_findFault 30 = .ok (.aload_n 0, 1) := by decide +kernel
theorem dX2_findFault_31 : decode cX2_findFault 31 = .ok (.invokevirtual 47, 3) := by decide +kernel
theorem dX2_findFault_34 : decode cX2_findFault 34 = .ok (.putfield 31, 3) := by decide +kernel
theorem dX2_findFault_37 : decode cX2_findFault 37 = .ok (.aload_n 0, 1) := by decide +kernel
theorem dX2_findFault_38 : decode cX2_findFault 38 = .ok (.getfield 31, 3) := by decide +kernel
theorem dX2_findFault_41 : decode cX2_findFault 41 = .ok (.ifCond .ge 10, 3) := by decide +kernel
theorem dX2_findFault_44 : decode cX2_findFault 44 = .ok (.aload_n 0, 1) := by decide +kernel
theorem dX2_findFault_45 : decode cX2_findFault 45 = .ok (.invokevirtual 51, 3) := by decide +kernel
theorem dX2_findFault_48 : decode cX2_findFault 48 = .ok (.goto 25, 3) := by decide +kernel
theorem dX2_findFault_51 : decode cX2_findFault 51 = .ok (.aload_n 0, 1) := by decide +kernel
theorem dX2_findFault_52 : decode cX2_findFault 52 = .ok (.invokevirtual 44, 3) := by decide +kernel
theorem dX2_findFault_55 : decode cX2_findFault 55 = .ok (.aload_n 0, 1) := by decide +kernel
theorem dX2_findFault_56 : decode cX2_findFault 56 = .ok (.iconst 0, 1) := by decide +kernel
theorem dX2_findFault_57 : decode cX2_findFault 57 = .ok (.iconst 0, 1) := by decide +kernel
theorem dX2_findFault_58 : decode cX2_findFault 58 = .ok (.iconst 0, 1) := by decide +kernel
theorem dX2_findFault_59 : decode cX2_findFault 59 = .ok (.invokevirtual 54, 3) := by decide +kernel
theorem dX2_findFault_62 : decode cX2_findFault 62 = .ok (.aload_n 0, 1) := by decide +kernel
theorem dX2_findFault_63 : decode cX2_findFault 63 = .ok (.getfield 18, 3) := by decide +kernel
theorem dX2_findFault_66 : decode cX2_findFault 66 = .ok (.ifCond .eq 7, 3) := by decide +kernel
theorem dX2_findFault_69 : decode cX2_findFault 69 = .ok (.aload_n 0, 1) := by decide +kernel
theorem dX2_findFault_70 : decode cX2_findFault 70 = .ok (.invokevirtual 51, 3) := by decide +kernel
theorem dX2_findFault_73 : decode cX2_findFault 73 = .ok (.aload_n 0, 1) := by decide +kernel
theorem dX2_findFault_74 : decode cX2_findFault 74 = .ok (.getfield 28, 3) := by decide +kernel
theorem dX2_findFault_77 : decode cX2_findFault 77 = .ok (.ireturn, 1) := by decide +kernel
theorem dX2_makeText_0 : decode cX2_makeText 0 = .ok (.new 58, 3) := by decide +kernel
theorem dX2_makeText_3 : decode cX2_makeText 3 = .ok (.dup, 1) := by decide +kernel
theorem dX2_makeText_4 : decode cX2_makeText 4 = .ok (.aload_n 0, 1) := by decide +kernel
theorem dX2_makeText_5 : decode cX2_makeText 5 = .ok (.getfield 31, 3) := by decide +kernel
theorem dX2_makeText_8 : decode cX2_makeText 8 = .ok (.aload_n 0, 1) := by decide +kernel
theorem dX2_makeText_9 : decode cX2_makeText 9 = .ok (.getfield 41, 3) := by decide +kernel
theorem dX2_makeText_12 : decode cX2_makeText 12 = .ok (.aload_n 0, 1) := by decide +kernel
theorem dX2_makeText_13 : decode cX2_makeText 13 = .ok (.getfield 34, 3) := by decide +kernel
theorem dX2_makeText_16 : decode cX2_makeText 16 = .ok (.aload_n 0, 1) := by decide +kernel
theorem dX2_makeText_17 : decode cX2_makeText 17 = .ok (.getfield 38, 3) := by decide +kernel
theorem dX2_makeText_20 : decode cX2_makeText 20 = .ok (.invokestatic 60, 3) := by decide +kernel
theorem dX2_makeText_23 : decode cX2_makeText 23 = .ok (.invokespecial 66, 3) := by decide +kernel
theorem dX2_makeText_26 : decode cX2_makeText 26 = .ok (.areturn, 1) := by decide +kernel
theorem dX2_wordOf_0 : decode cX2_wordOf 0 = .ok (.iload_n 0, 1) := by decide +kernel
theorem dX2_wordOf_1 : decode cX2_wordOf 1 = .ok (.ifCond .ne 8, 3) := by decide +kernel
theorem dX2_wordOf_4 : decode cX2_wordOf 4 = .ok (.ldc 69, 2) := by decide +kernel
theorem dX2_wordOf_6 : decode cX2_wordOf 6 = .ok (.goto 15, 3) := by decide +kernel
theorem dX2_wordOf_9 : decode cX2_wordOf 9 = .ok (.iload_n 0, 1) := by decide +kernel
theorem dX2_wordOf_10 : decode cX2_wordOf 10 = .ok (.iconst 1, 1) := by decide +kernel
theorem dX2_wordOf_11 : decode cX2_wordOf 11 = .ok (.if_icmp .ne 8, 3) := by decide +kernel
theorem dX2_wordOf_14 : decode cX2_wordOf 14 = .ok (.ldc 71, 2) := by decide +kernel
theorem dX2_wordOf_16 : decode cX2_wordOf 16 = .ok (.goto 5, 3) := by decide +kernel
theorem dX2_wordOf_19 : decode cX2_wordOf 19 = .ok (.ldc 73, 2) := by decide +kernel
theorem dX2_wordOf_21 : decode cX2_wordOf 21 = .ok (.areturn, 1) := by decide +kernel
theorem dX2_namesOf_0 : decode cX2_namesOf 0 = .ok (.iload_n 0, 1) := by decide +kernel
theorem dX2_namesOf_1 : decode cX2_namesOf 1 = .ok (.ifCond .ne 8, 3) := by decide +kernel
theorem dX2_namesOf_4 : decode cX2_namesOf 4 = .ok (.ldc 75, 2) := by decide +kernel
theorem dX2_namesOf_6 : decode cX2_namesOf 6 = .ok (.goto 15, 3) := by decide +kernel
theorem dX2_namesOf_9 : decode cX2_namesOf 9 = .ok (.iload_n 0, 1) := by decide +kernel
theorem dX2_namesOf_10 : decode cX2_namesOf 10 = .ok (.iconst 1, 1) := by decide +kernel
theorem dX2_namesOf_11 : decode cX2_namesOf 11 = .ok (.if_icmp .ne 8, 3) := by decide +kernel
theorem dX2_namesOf_14 : decode cX2_namesOf 14 = .ok (.ldc 77, 2) := by decide +kernel
theorem dX2_namesOf_16 : decode cX2_namesOf 16 = .ok (.goto 5, 3) := by decide +kernel
theorem dX2_namesOf_19 : decode cX2_namesOf 19 = .ok (.ldc 79, 2) := by decide +kernel
theorem dX2_namesOf_21 : decode cX2_namesOf 21 = .ok (.areturn, 1) := by decide +kernel
theorem dX2_advance_0 : decode cX2_advance 0 = .ok (.aload_n 0, 1) := by decide +kernel
theorem dX2_advance_1 : decode cX2_advance 1 = .ok (.getfield 18, 3) := by decide +kernel
theorem dX2_advance_4 : decode cX2_advance 4 = .ok (.iconst 1, 1) := by decide +kernel
theorem dX2_advance_5 : decode cX2_advance 5 = .ok (.if_icmp .eq 11, 3) := by decide +kernel
theorem dX2_advance_8 : decode cX2_advance 8 = .ok (.aload_n 0, 1) := by decide +kernel
theorem dX2_advance_9 : decode cX2_advance 9 = .ok (.getfield 18, 3) := by decide +kernel
theorem dX2_advance_12 : decode cX2_advance 12 = .ok (.iconst 2, 1) := by decide +kernel
theorem dX2_advance_13 : decode cX2_advance 13 = .ok (.if_icmp .ne 7, 3) := by decide +kernel
theorem dX2_advance_16 : decode cX2_advance 16 = .ok (.iconst 1, 1) := by decide +kernel
theorem dX2_advance_17 : decode cX2_advance 17 = .ok (.goto 4, 3) := by decide +kernel
theorem dX2_advance_20 : decode cX2_advance 20 = .ok (.iconst 0, 1) := by decide +kernel
theorem dX2_advance_21 : decode cX2_advance 21 = .ok (.istore_n 1, 1) := by decide +kernel
theorem dX2_advance_22 : decode cX2_advance 22 = .ok (.aload_n 0, 1) := by decide +kernel
theorem dX2_advance_23 : decode cX2_advance 23 = .ok (.getfield 25, 3) := by decide +kernel
theorem dX2_advance_26 : decode cX2_advance 26 = .ok (.istore_n 2, 1) := by decide +kernel
theorem dX2_advance_27 : decode cX2_advance 27 = .ok (.aload_n 0, 1) := by decide +kernel
theorem dX2_advance_28 : decode cX2_advance 28 = .ok (.iload_n 2, 1) := by decide +kernel
theorem dX2_advance_29 : decode cX2_advance 29 = .ok (.putfield 22, 3) := by decide +kernel
theorem dX2_advance_32 : decode cX2_advance 32 = .ok (.iload_n 2, 1) := by decide +kernel
theorem dX2_advance_33 : decode cX2_advance 33 = .ok (.istore_n 3, 1) := by decide +kernel
theorem dX2_advance_34 : decode cX2_advance 34 = .ok (.iload_n 3, 1) := by decide +kernel
theorem dX2_advance_35 : decode cX2_advance 35 = .ok (.aload_n 0, 1) := by decide +kernel
theorem dX2_advance_36 : decode cX2_advance 36 = .ok (.getfield 12, 3) := by decide +kernel
theorem dX2_advance_39 : decode cX2_advance 39 = .ok (.getfield 81, 3) := by decide +kernel
theorem dX2_advance_42 : decode cX2_advance 42 = .ok (.if_icmp .ge 30, 3) := by decide +kernel
theorem dX2_advance_45 : decode cX2_advance 45 = .ok (.aload_n 0, 1) := by decide +kernel
theorem dX2_advance_46 : decode cX2_advance 46 = .ok (.getfield 12, 3) := by decide +kernel
theorem dX2_advance_49 : decode cX2_advance 49 = .ok (.getfield 84, 3) := by decide +kernel
theorem dX2_advance_52 : decode cX2_advance 52 = .ok (.iload_n 3, 1) := by decide +kernel
theorem dX2_advance_53 : decode cX2_advance 53 = .ok (.baload, 1) := by decide +kernel
theorem dX2_advance_54 : decode cX2_advance 54 = .ok (.bipush 32, 2) := by decide +kernel
theorem dX2_advance_56 : decode cX2_advance 56 = .ok (.if_icmp .ne 16, 3) := by decide +kernel
theorem dX2_advance_59 : decode cX2_advance 59 = .ok (.aload_n 0, 1) := by decide +kernel
theorem dX2_advance_60 : decode cX2_advance 60 = .ok (.iload_n 3, 1) := by decide +kernel
theorem dX2_advance_61 : decode cX2_advance 61 = .ok (.iconst 1, 1) := by decide +kernel
theorem dX2_advance_62 : decode cX2_advance 62 = .ok (.iadd, 1) := by decide +kernel
theorem dX2_advance_63 : decode cX2_advance 63 = .ok (.putfield 22, 3) := by decide +kernel
theorem dX2_advance_66 : decode cX2_advance 66 = .ok (.iinc 3 1, 3) := by decide +kernel
theorem dX2_advance_69 : decode cX2_advance 69 = .ok (.goto (-35), 3) := by decide +kernel
theorem dX2_advance_72 : decode cX2_advance 72 = .ok (.aload_n 0, 1) := by decide +kernel
theorem dX2_advance_73 : decode cX2_advance 73 = .ok (.aload_n 0, 1) := by decide +kernel
theorem dX2_advance_74 : decode cX2_advance 74 = .ok (.getfield 22, 3) := by decide +kernel
theorem dX2_advance_77 : decode cX2_advance 77 = .ok (.putfield 25, 3) := by decide +kernel
theorem dX2_advance_80 : decode cX2_advance 80 = .ok (.aload_n 0, 1) := by decide +kernel
theorem dX2_advance_81 : decode cX2_advance 81 = .ok (.aload_n 0, 1) := by decide +kernel
theorem dX2_advance_82 : decode cX2_advance 82 = .ok (.aload_n 0, 1) := by decide +kernel
theorem dX2_advance_83 : decode cX2_advance 83 = .ok (.getfield 22, 3) := by decide +kernel
theorem dX2_advance_86 : decode cX2_advance 86 = .ok (.invokevirtual 88, 3) := by decide +kernel
theorem dX2_advance_89 : decode cX2_advance 89 = .ok (.putfield 18, 3) := by decide +kernel
theorem dX2_advance_92 : decode cX2_advance 92 = .ok (.aload_n 0, 1) := by decide +kernel
theorem dX2_advance_93 : decode cX2_advance 93 = .ok (.getfield 18, 3) := by decide +kernel
theorem dX2_advance_96 : decode cX2_advance 96 = .ok (.iconst 3, 1) := by decide +kernel
theorem dX2_advance_97 : decode cX2_advance 97 = .ok (.if_icmp .ne 16, 3) := by decide +kernel
theorem dX2_advance_100 : decode cX2_advance 100 = .ok (.aload_n 0, 1) := by decide +kernel
theorem dX2_advance_101 : decode cX2_advance 101 = .ok (.aload_n 0, 1) := by decide +kernel
theorem dX2_advance_102 : decode cX2_advance 102 = .ok (.getfield 22, 3) := by decide +kernel
theorem dX2_advance_105 : decode cX2_advance 105 = .ok (.iconst 1, 1) := by decide +kernel
theorem dX2_advance_106 : decode cX2_advance 106 = .ok (.iadd, 1) := by decide +kernel
theorem dX2_advance_107 : decode cX2_advance 107 = .ok (.putfield 25, 3) := by decide +kernel
theorem dX2_advance_110 : decode cX2_advance 110 = .ok (.goto 68, 3) := by decide +kernel
theorem dX2_advance_113 : decode cX2_advance 113 = .ok (.aload_n 0, 1) := by decide +kernel
theorem dX2_advance_114 : decode cX2_advance 114 = .ok (.getfield 18, 3) := by decide +kernel
theorem dX2_advance_117 : decode cX2_advance 117 = .ok (.ifCond .eq 61, 3) := by decide +kernel
theorem dX2_advance_120 : decode cX2_advance 120 = .ok (.aload_n 0, 1) := by decide +kernel
theorem dX2_advance_121 : decode cX2_advance 121 = .ok (.getfield 22, 3) := by decide +kernel
theorem dX2_advance_124 : decode cX2_advance 124 = .ok (.istore_n 3, 1) := by decide +kernel
theorem dX2_advance_125 : decode cX2_advance 125 = .ok (.iload_n 3, 1) := by decide +kernel
theorem dX2_advance_126 : decode cX2_advance 126 = .ok (.aload_n 0, 1) := by decide +kernel
theorem dX2_advance_127 : decode cX2_advance 127 = .ok (.getfield 12, 3) := by decide +kernel
theorem dX2_advance_130 : decode cX2_advance 130 = .ok (.getfield 81, 3) := by decide +kernel
theorem dX2_advance_133 : decode cX2_advance 133 = .ok (.if_icmp .ge 28, 3) := by decide +kernel
theorem dX2_advance_136 : decode cX2_advance 136 = .ok (.aload_n 0, 1) := by decide +kernel
theorem dX2_advance_137 : decode cX2_advance 137 = .ok (.iload_n 3, 1) := by decide +kernel
theorem dX2_advance_138 : decode cX2_advance 138 = .ok (.invokevirtual 88, 3) := by decide +kernel
theorem dX2_advance_141 : decode cX2_advance 141 = .ok (.aload_n 0, 1) := by decide +kernel
theorem dX2_advance_142 : decode cX2_advance 142 = .ok (.getfield 18, 3) := by decide +kernel
theorem dX2_advance_145 : decode cX2_advance 145 = .ok (.if_icmp .ne 16, 3) := by decide +kernel
theorem dX2_advance_148 : decode cX2_advance 148 = .ok (.aload_n 0, 1) := by decide +kernel
theorem dX2_advance_149 : decode cX2_advance 149 = .ok (.iload_n 3, 1) := by decide +kernel
theorem dX2_advance_150 : decode cX2_advance 150 = .ok (.iconst 1, 1) := by decide +kernel
theorem dX2_advance_151 : decode cX2_advance 151 = .ok (.iadd, 1) := by decide +kernel
theorem dX2_advance_152 : decode cX2_advance 152 = .ok (.putfield 25, 3) := by decide +kernel
theorem dX2_advance_155 : decode cX2_advance 155 = .ok (.iinc 3 1, 3) := by decide +kernel
theorem dX2_advance_158 : decode cX2_advance 158 = .ok (.goto (-33), 3) := by decide +kernel
theorem dX2_advance_161 : decode cX2_advance 161 = .ok (.iload_n 1, 1) := by decide +kernel
theorem dX2_advance_162 : decode cX2_advance 162 = .ok (.ifCond .eq 16, 3) := by decide +kernel
theorem dX2_advance_165 : decode cX2_advance 165 = .ok (.aload_n 0, 1) := by decide +kernel
theorem dX2_advance_166 : decode cX2_advance 166 = .ok (.getfield 22, 3) := by decide +kernel
theorem dX2_advance_169 : decode cX2_advance 169 = .ok (.iload_n 2, 1) := by decide +kernel
theorem dX2_advance_170 : decode cX2_advance 170 = .ok (.if_icmp .ne 8, 3) := by decide +kernel
theorem dX2_advance_173 : decode cX2_advance 173 = .ok (.aload_n 0, 1) := by decide +kernel
theorem dX2_advance_174 : decode cX2_advance 174 = .ok (.iconst 4, 1) := by decide +kernel
theorem dX2_advance_175 : decode cX2_advance 175 = .ok (.putfield 18, 3) := by decide +kernel
theorem dX2_advance_178 : decode cX2_advance 178 = .ok (.return_, 1) := by decide +kernel
theorem dX2_sortAt_0 : decode cX2_sortAt 0 = .ok (.iload_n 1, 1) := by decide +kernel
theorem dX2_sortAt_1 : decode cX2_sortAt 1 = .ok (.aload_n 0, 1) := by decide +kernel
theorem dX2_sortAt_2 : decode cX2_sortAt 2 = .ok (.getfield 12, 3) := by decide +kernel
theorem dX2_sortAt_5 : decode cX2_sortAt 5 = .ok (.getfield 81, 3) := by decide +kernel
theorem dX2_sortAt_8 : decode cX2_sortAt 8 = .ok (.if_icmp .lt 5, 3) := by decide +kernel
theorem dX2_sortAt_11 : decode cX2_sortAt 11 = .ok (.iconst 0, 1) := by decide +kernel
theorem dX2_sortAt_12 : decode cX2_sortAt 12 = .ok (.ireturn, 1) := by decide +kernel
theorem dX2_sortAt_13 : decode cX2_sortAt 13 = .ok (.aload_n 0, 1) := by decide +kernel
theorem dX2_sortAt_14 : decode cX2_sortAt 14 = .ok (.getfield 12, 3) := by decide +kernel
theorem dX2_sortAt_17 : decode cX2_sortAt 17 = .ok (.getfield 84, 3) := by decide +kernel
theorem dX2_sortAt_20 : decode cX2_sortAt 20 = .ok (.iload_n 1, 1) := by decide +kernel
theorem dX2_sortAt_21 : decode cX2_sortAt 21 = .ok (.baload, 1) := by decide +kernel
theorem dX2_sortAt_22 : decode cX2_sortAt 22 = .ok (.istore_n 2, 1) := by decide +kernel
theorem dX2_sortAt_23 : decode cX2_sortAt 23 = .ok (.iload_n 2, 1) := by decide +kernel
theorem dX2_sortAt_24 : decode cX2_sortAt 24 = .ok (.bipush 97, 2) := by decide +kernel
theorem dX2_sortAt_26 : decode cX2_sortAt 26 = .ok (.if_icmp .lt 11, 3) := by decide +kernel
theorem dX2_sortAt_29 : decode cX2_sortAt 29 = .ok (.iload_n 2, 1) := by decide +kernel
theorem dX2_sortAt_30 : decode cX2_sortAt 30 = .ok (.bipush 122, 2) := by decide +kernel
theorem dX2_sortAt_32 : decode cX2_sortAt 32 = .ok (.if_icmp .gt 5, 3) := by decide +kernel
theorem dX2_sortAt_35 : decode cX2_sortAt 35 = .ok (.iconst 1, 1) := by decide +kernel
theorem dX2_sortAt_36 : decode cX2_sortAt 36 = .ok (.ireturn, 1) := by decide +kernel
theorem dX2_sortAt_37 : decode cX2_sortAt 37 = .ok (.iload_n 2, 1) := by decide +kernel
theorem dX2_sortAt_38 : decode cX2_sortAt 38 = .ok (.bipush 48, 2) := by decide +kernel
theorem dX2_sortAt_40 : decode cX2_sortAt 40 = .ok (.if_icmp .lt 13, 3) := by decide +kernel
theorem dX2_sortAt_43 : decode cX2_sortAt 43 = .ok (.iload_n 2, 1) := by decide +kernel
theorem dX2_sortAt_44 : decode cX2_sortAt 44 = .ok (.bipush 57, 2) := by decide +kernel
theorem dX2_sortAt_46 : decode cX2_sortAt 46 = .ok (.if_icmp .gt 7, 3) := by decide +kernel
theorem dX2_sortAt_49 : decode cX2_sortAt 49 = .ok (.iconst 2, 1) := by decide +kernel
theorem dX2_sortAt_50 : decode cX2_sortAt 50 = .ok (.goto 4, 3) := by decide +kernel
theorem dX2_sortAt_53 : decode cX2_sortAt 53 = .ok (.iconst 3, 1) := by decide +kernel
theorem dX2_sortAt_54 : decode cX2_sortAt 54 = .ok (.ireturn, 1) := by decide +kernel
theorem dX2_fail_0 : decode cX2_fail 0 = .ok (.aload_n 0, 1) := by decide +kernel
theorem dX2_fail_1 : decode cX2_fail 1 = .ok (.getfield 28, 3) := by decide +kernel
theorem dX2_fail_4 : decode cX2_fail 4 = .ok (.ifCond .ge 11, 3) := by decide +kernel
theorem dX2_fail_7 : decode cX2_fail 7 = .ok (.aload_n 0, 1) := by decide +kernel
theorem dX2_fail_8 : decode cX2_fail 8 = .ok (.aload_n 0, 1) := by decide +kernel
theorem dX2_fail_9 : decode cX2_fail 9 = .ok (.getfield 22, 3) := by decide +kernel
theorem dX2_fail_12 : decode cX2_fail 12 = .ok (.putfield 28, 3) := by decide +kernel
theorem dX2_fail_15 : decode cX2_fail 15 = .ok (.aload_n 0, 1) := by decide +kernel
theorem dX2_fail_16 : decode cX2_fail 16 = .ok (.iconst 4, 1) := by decide +kernel
theorem dX2_fail_17 : decode cX2_fail 17 = .ok (.putfield 18, 3) := by decide +kernel
theorem dX2_fail_20 : decode cX2_fail 20 = .ok (.return_, 1) := by decide +kernel
theorem dX2_keyHere_0 : decode cX2_keyHere 0 = .ok (.iconst 0, 1) := by decide +kernel
theorem dX2_keyHere_1 : decode cX2_keyHere 1 = .ok (.istore_n 1, 1) := by decide +kernel
theorem dX2_keyHere_2 : decode cX2_keyHere 2 = .ok (.iload_n 1, 1) := by decide +kernel
theorem dX2_keyHere_3 : decode cX2_keyHere 3 = .ok (.iconst 2, 1) := by decide +kernel
theorem dX2_keyHere_4 : decode cX2_keyHere 4 = .ok (.if_icmp .gt 30, 3) := by decide +kernel
theorem dX2_keyHere_7 : decode cX2_keyHere 7 = .ok (.aload_n 0, 1) := by decide +kernel
theorem dX2_keyHere_8 : decode cX2_keyHere 8 = .ok (.getfield 18, 3) := by decide +kernel
theorem dX2_keyHere_11 : decode cX2_keyHere 11 = .ok (.iconst 1, 1) := by decide +kernel
theorem dX2_keyHere_12 : decode cX2_keyHere 12 = .ok (.if_icmp .ne 16, 3) := by decide +kernel
theorem dX2_keyHere_15 : decode cX2_keyHere 15 = .ok (.aload_n 0, 1) := by decide +kernel
theorem dX2_keyHere_16 : decode cX2_keyHere 16 = .ok (.iload_n 1, 1) := by decide +kernel
theorem dX2_keyHere_17 : decode cX2_keyHere 17 = .ok (.invokestatic 92, 3) := by decide +kernel
theorem dX2_keyHere_20 : decode cX2_keyHere 20 = .ok (.invokevirtual 96, 3) := by decide +kernel
theorem dX2_keyHere_23 : decode cX2_keyHere 23 = .ok (.ifCond .eq 5, 3) := by decide +kernel
theorem dX2_keyHere_26 : decode cX2_keyHere 26 = .ok (.iload_n 1, 1) := by decide +kernel
theorem dX2_keyHere_27 : decode cX2_keyHere 27 = .ok (.ireturn, 1) := by decide +kernel
theorem dX2_keyHere_28 : decode cX2_keyHere 28 = .ok (.iinc 1 1, 3) := by decide +kernel
theorem dX2_keyHere_31 : decode cX2_keyHere 31 = .ok (.goto (-29), 3) := by decide +kernel
theorem dX2_keyHere_34 : decode cX2_keyHere 34 = .ok (.iconst (-1), 1) := by decide +kernel
theorem dX2_keyHere_35 : decode cX2_keyHere 35 = .ok (.ireturn, 1) := by decide +kernel
theorem dX2_isHere_0 : decode cX2_isHere 0 = .ok (.aload_n 0, 1) := by decide +kernel
theorem dX2_isHere_1 : decode cX2_isHere 1 = .ok (.getfield 25, 3) := by decide +kernel
theorem dX2_isHere_4 : decode cX2_isHere 4 = .ok (.aload_n 0, 1) := by decide +kernel
theorem dX2_isHere_5 : decode cX2_isHere 5 = .ok (.getfield 22, 3) := by decide +kernel
theorem dX2_isHere_8 : decode cX2_isHere 8 = .ok (.isub, 1) := by decide +kernel
theorem dX2_isHere_9 : decode cX2_isHere 9 = .ok (.aload_n 1, 1) := by decide +kernel
theorem dX2_isHere_10 : decode cX2_isHere 10 = .ok (.invokevirtual 100, 3) := by decide +kernel
theorem dX2_isHere_13 : decode cX2_isHere 13 = .ok (.if_icmp .eq 5, 3) := by decide +kernel
theorem dX2_isHere_16 : decode cX2_isHere 16 = .ok (.iconst 0, 1) := by decide +kernel
theorem dX2_isHere_17 : decode cX2_isHere 17 = .ok (.ireturn, 1) := by decide +kernel
theorem dX2_isHere_18 : decode cX2_isHere 18 = .ok (.iconst 0, 1) := by decide +kernel
theorem dX2_isHere_19 : decode cX2_isHere 19 = .ok (.istore_n 2, 1) := by decide +kernel
theorem dX2_isHere_20 : decode cX2_isHere 20 = .ok (.iload_n 2, 1) := by decide +kernel
theorem dX2_isHere_21 : decode cX2_isHere 21 = .ok (.aload_n 1, 1) := by decide +kernel
theorem dX2_isHere_22 : decode cX2_isHere 22 = .ok (.invokevirtual 100, 3) := by decide +kernel
theorem dX2_isHere_25 : decode cX2_isHere 25 = .ok (.if_icmp .ge 33, 3) := by decide +kernel
theorem dX2_isHere_28 : decode cX2_isHere 28 = .ok (.aload_n 0, 1) := by decide +kernel
theorem dX2_isHere_29 : decode cX2_isHere 29 = .ok (.getfield 12, 3) := by decide +kernel
theorem dX2_isHere_32 : decode cX2_isHere 32 = .ok (.getfield 84, 3) := by decide +kernel
theorem dX2_isHere_35 : decode cX2_isHere 35 = .ok (.aload_n 0, 1) := by decide +kernel
theorem dX2_isHere_36 : decode cX2_isHere 36 = .ok (.getfield 22, 3) := by decide +kernel
theorem dX2_isHere_39 : decode cX2_isHere 39 = .ok (.iload_n 2, 1) := by decide +kernel
theorem dX2_isHere_40 : decode cX2_isHere 40 = .ok (.iadd, 1) := by decide +kernel
theorem dX2_isHere_41 : decode cX2_isHere 41 = .ok (.baload, 1) := by decide +kernel
theorem dX2_isHere_42 : decode cX2_isHere 42 = .ok (.aload_n 1, 1) := by decide +kernel
theorem dX2_isHere_43 : decode cX2_isHere 43 = .ok (.iload_n 2, 1) := by decide +kernel
theorem dX2_isHere_44 : decode cX2_isHere 44 = .ok (.invokevirtual 104, 3) := by decide +kernel
theorem dX2_isHere_47 : decode cX2_isHere 47 = .ok (.if_icmp .eq 5, 3) := by decide +kernel
theorem dX2_isHere_50 : decode cX2_isHere 50 = .ok (.iconst 0, 1) := by decide +kernel
theorem dX2_isHere_51 : decode cX2_isHere 51 = .ok (.ireturn, 1) := by decide +kernel
theorem dX2_isHere_52 : decode cX2_isHere 52 = .ok (.iinc 2 1, 3) := by decide +kernel
theorem dX2_isHere_55 : decode cX2_isHere 55 = .ok (.goto (-35), 3) := by decide +kernel
theorem dX2_isHere_58 : decode cX2_isHere 58 = .ok (.iconst 1, 1) := by decide +kernel
theorem dX2_isHere_59 : decode cX2_isHere 59 = .ok (.ireturn, 1) := by decide +kernel
theorem dX2_isSign_0 : decode cX2_isSign 0 = .ok (.aload_n 0, 1) := by decide +kernel
theorem dX2_isSign_1 : decode cX2_isSign 1 = .ok (.getfield 18, 3) := by decide +kernel
theorem dX2_isSign_4 : decode cX2_isSign 4 = .ok (.iconst 3, 1) := by decide +kernel
theorem dX2_isSign_5 : decode cX2_isSign 5 = .ok (.if_icmp .ne 37, 3) := by decide +kernel
theorem dX2_isSign_8 : decode cX2_isSign 8 = .ok (.aload_n 0, 1) := by decide +kernel
theorem dX2_isSign_9 : decode cX2_isSign 9 = .ok (.getfield 22, 3) := by decide +kernel
theorem dX2_isSign_12 : decode cX2_isSign 12 = .ok (.aload_n 0, 1) := by decide +kernel
theorem dX2_isSign_13 : decode cX2_isSign 13 = .ok (.getfield 12, 3) := by decide +kernel
theorem dX2_isSign_16 : decode cX2_isSign 16 = .ok (.getfield 81, 3) := by decide +kernel
theorem dX2_isSign_19 : decode cX2_isSign 19 = .ok (.if_icmp .ge 23, 3) := by decide +kernel
theorem dX2_isSign_22 : decode cX2_isSign 22 = .ok (.aload_n 0, 1) := by decide +kernel
theorem dX2_isSign_23 : decode cX2_isSign 23 = .ok (.getfield 12, 3) := by decide +kernel
theorem dX2_isSign_26 : decode cX2_isSign 26 = .ok (.getfield 84, 3) := by decide +kernel
theorem dX2_isSign_29 : decode cX2_isSign 29 = .ok (.aload_n 0, 1) := by decide +kernel
theorem dX2_isSign_30 : decode cX2_isSign 30 = .ok (.getfield 22, 3) := by decide +kernel
theorem dX2_isSign_33 : decode cX2_isSign 33 = .ok (.baload, 1) := by decide +kernel
theorem dX2_isSign_34 : decode cX2_isSign 34 = .ok (.iload_n 1, 1) := by decide +kernel
theorem dX2_isSign_35 : decode cX2_isSign 35 = .ok (.if_icmp .ne 7, 3) := by decide +kernel
theorem dX2_isSign_38 : decode cX2_isSign 38 = .ok (.iconst 1, 1) := by decide +kernel
theorem dX2_isSign_39 : decode cX2_isSign 39 = .ok (.goto 4, 3) := by decide +kernel
theorem dX2_isSign_42 : decode cX2_isSign 42 = .ok (.iconst 0, 1) := by decide +kernel
theorem dX2_isSign_43 : decode cX2_isSign 43 = .ok (.ireturn, 1) := by decide +kernel
theorem dX2_levelHere_0 : decode cX2_levelHere 0 = .ok (.aload_n 0, 1) := by decide +kernel
theorem dX2_levelHere_1 : decode cX2_levelHere 1 = .ok (.getfield 18, 3) := by decide +kernel
theorem dX2_levelHere_4 : decode cX2_levelHere 4 = .ok (.iconst 3, 1) := by decide +kernel
theorem dX2_levelHere_5 : decode cX2_levelHere 5 = .ok (.if_icmp .ne 17, 3) := by decide +kernel
theorem dX2_levelHere_8 : decode cX2_levelHere 8 = .ok (.aload_n 0, 1) := by decide +kernel
theorem dX2_levelHere_9 : decode cX2_levelHere 9 = .ok (.getfield 22, 3) := by decide +kernel
theorem dX2_levelHere_12 : decode cX2_levelHere 12 = .ok (.aload_n 0, 1) := by decide +kernel
theorem dX2_levelHere_13 : decode cX2_levelHere 13 = .ok (.getfield 12, 3) := by decide +kernel
theorem dX2_levelHere_16 : decode cX2_levelHere 16 = .ok (.getfield 81, 3) := by decide +kernel
theorem dX2_levelHere_19 : decode cX2_levelHere 19 = .ok (.if_icmp .lt 5, 3) := by decide +kernel
theorem dX2_levelHere_22 : decode cX2_levelHere 22 = .ok (.iconst (-1), 1) := by decide +kernel
theorem dX2_levelHere_23 : decode cX2_levelHere 23 = .ok (.ireturn, 1) := by decide +kernel
theorem dX2_levelHere_24 : decode cX2_levelHere 24 = .ok (.aload_n 0, 1) := by decide +kernel
theorem dX2_levelHere_25 : decode cX2_levelHere 25 = .ok (.getfield 12, 3) := by decide +kernel
theorem dX2_levelHere_28 : decode cX2_levelHere 28 = .ok (.getfield 84, 3) := by decide +kernel
theorem dX2_levelHere_31 : decode cX2_levelHere 31 = .ok (.aload_n 0, 1) := by decide +kernel
theorem dX2_levelHere_32 : decode cX2_levelHere 32 = .ok (.getfield 22, 3) := by decide +kernel
theorem dX2_levelHere_35 : decode cX2_levelHere 35 = .ok (.baload, 1) := by decide +kernel
theorem dX2_levelHere_36 : decode cX2_levelHere 36 = .ok (.lookupswitch 94 #[(38, 86), (42, 92), (43, 90), (45, 90), (47, 92), (60, 88), (61, 88), (62, 88), (124, 84)], 84) := by decide +kernel
theorem dX2_levelHere_120 : decode cX2_levelHere 120 = .ok (.iconst 0, 1) := by decide +kernel
theorem dX2_levelHere_121 : decode cX2_levelHere 121 = .ok (.ireturn, 1) := by decide +kernel
theorem dX2_levelHere_122 : decode cX2_levelHere 122 = .ok (.iconst 1, 1) := by decide +kernel
theorem dX2_levelHere_123 : decode cX2_levelHere 123 = .ok (.ireturn, 1) := by decide +kernel
theorem dX2_levelHere_124 : decode cX2_levelHere 124 = .ok (.iconst 2, 1) := by decide +kernel
theorem dX2_levelHere_125 : decode cX2_levelHere 125 = .ok (.ireturn, 1) := by decide +kernel
theorem dX2_levelHere_126 : decode cX2_levelHere 126 = .ok (.iconst 3, 1) := by decide +kernel
theorem dX2_levelHere_127 : decode cX2_levelHere 127 = .ok (.ireturn, 1) := by decide +kernel
theorem dX2_levelHere_128 : decode cX2_levelHere 128 = .ok (.iconst 4, 1) := by decide +kernel
theorem dX2_levelHere_129 : decode cX2_levelHere 129 = .ok (.ireturn, 1) := by decide +kernel
theorem dX2_levelHere_130 : decode cX2_levelHere 130 = .ok (.iconst (-1), 1) := by decide +kernel
theorem dX2_levelHere_131 : decode cX2_levelHere 131 = .ok (.ireturn, 1) := by decide +kernel
theorem dX2_readLevel_0 : decode cX2_readLevel 0 = .ok (.iload_n 1, 1) := by decide +kernel
theorem dX2_readLevel_1 : decode cX2_readLevel 1 = .ok (.iconst 4, 1) := by decide +kernel
theorem dX2_readLevel_2 : decode cX2_readLevel 2 = .ok (.if_icmp .le 10, 3) := by decide +kernel
theorem dX2_readLevel_5 : decode cX2_readLevel 5 = .ok (.aload_n 0, 1) := by decide +kernel
theorem dX2_readLevel_6 : decode cX2_readLevel 6 = .ok (.iload_n 2, 1) := by decide +kernel
theorem dX2_readLevel_7 : decode cX2_readLevel 7 = .ok (.iload_n 3, 1) := by decide +kernel
theorem dX2_readLevel_8 : decode cX2_readLevel 8 = .ok (.invokevirtual 108, 3) := by decide +kernel
theorem dX2_readLevel_11 : decode cX2_readLevel 11 = .ok (.return_, 1) := by decide +kernel
theorem dX2_readLevel_12 : decode cX2_readLevel 12 = .ok (.aload_n 0, 1) := by decide +kernel
theorem dX2_readLevel_13 : decode cX2_readLevel 13 = .ok (.iload_n 1, 1) := by decide +kernel
theorem dX2_readLevel_14 : decode cX2_readLevel 14 = .ok (.iconst 1, 1) := by decide +kernel
theorem dX2_readLevel_15 : decode cX2_readLevel 15 = .ok (.iadd, 1) := by decide +kernel
theorem dX2_readLevel_16 : decode cX2_readLevel 16 = .ok (.iload_n 2, 1) := by decide +kernel
theorem dX2_readLevel_17 : decode cX2_readLevel 17 = .ok (.iload_n 3, 1) := by decide +kernel
theorem dX2_readLevel_18 : decode cX2_readLevel 18 = .ok (.invokevirtual 54, 3) := by decide +kernel
theorem dX2_readLevel_21 : decode cX2_readLevel 21 = .ok (.iload_n 1, 1) := by decide +kernel
theorem dX2_readLevel_22 : decode cX2_readLevel 22 = .ok (.iconst 2, 1) := by decide +kernel
theorem dX2_readLevel_23 : decode cX2_readLevel 23 = .ok (.if_icmp .ne 7, 3) := by decide +kernel
theorem dX2_readLevel_26 : decode cX2_readLevel 26 = .ok (.iconst 1, 1) := by decide +kernel
theorem dX2_readLevel_27 : decode cX2_readLevel 27 = .ok (.goto 5, 3) := by decide +kernel
theorem dX2_readLevel_30 : decode cX2_readLevel 30 = .ok (.bipush 96, 2) := by decide +kernel
theorem dX2_readLevel_32 : decode cX2_readLevel 32 = .ok (.istore 4, 2) := by decide +kernel
theorem dX2_readLevel_34 : decode cX2_readLevel 34 = .ok (.iconst 0, 1) := by decide +kernel
theorem dX2_readLevel_35 : decode cX2_readLevel 35 = .ok (.istore 5, 2) := by decide +kernel
theorem dX2_readLevel_37 : decode cX2_readLevel 37 = .ok (.iload 5, 2) := by decide +kernel
theorem dX2_readLevel_39 : decode cX2_readLevel 39 = .ok (.iload 4, 2) := by decide +kernel
theorem dX2_readLevel_41 : decode cX2_readLevel 41 = .ok (.if_icmp .ge 51, 3) := by decide +kernel
theorem dX2_readLevel_44 : decode cX2_readLevel 44 = .ok (.aload_n 0, 1) := by decide +kernel
theorem dX2_readLevel_45 : decode cX2_readLevel 45 = .ok (.invokevirtual 112, 3) := by decide +kernel
theorem dX2_readLevel_48 : decode cX2_readLevel 48 = .ok (.iload_n 1, 1) := by decide +kernel
theorem dX2_readLevel_49 : decode cX2_readLevel 49 = .ok (.if_icmp .ne 43, 3) := by decide +kernel
theorem dX2_readLevel_52 : decode cX2_readLevel 52 = .ok (.aload_n 0, 1) := by decide +kernel
theorem dX2_readLevel_53 : decode cX2_readLevel 53 = .ok (.getfield 12, 3) := by decide +kernel
theorem dX2_readLevel_56 : decode cX2_readLevel 56 = .ok (.getfield 84, 3) := by decide +kernel
theorem dX2_readLevel_59 : decode cX2_readLevel 59 = .ok (.aload_n 0, 1) := by decide +kernel
theorem dX2_readLevel_60 : decode cX2_readLevel 60 = .ok (.getfield 22, 3) := by decide +kernel
theorem dX2_readLevel_63 : decode cX2_readLevel 63 = .ok (.baload, 1) := by decide +kernel
theorem dX2_readLevel_64 : decode cX2_readLevel 64 = .ok (.istore 6, 2) := by decide +kernel
theorem dX2_readLevel_66 : decode cX2_readLevel 66 = .ok (.aload_n 0, 1) := by decide +kernel
theorem dX2_readLevel_67 : decode cX2_readLevel 67 = .ok (.invokevirtual 44, 3) := by decide +kernel
theorem dX2_readLevel_70 : decode cX2_readLevel 70 = .ok (.aload_n 0, 1) := by decide +kernel
theorem dX2_readLevel_71 : decode cX2_readLevel 71 = .ok (.iload_n 1, 1) := by decide +kernel
theorem dX2_readLevel_72 : decode cX2_readLevel 72 = .ok (.iconst 1, 1) := by decide +kernel
theorem dX2_readLevel_73 : decode cX2_readLevel 73 = .ok (.iadd, 1) := by decide +kernel
theorem dX2_readLevel_74 : decode cX2_readLevel 74 = .ok (.iload_n 2, 1) := by decide +kernel
theorem dX2_readLevel_75 : decode cX2_readLevel 75 = .ok (.iload_n 3, 1) := by decide +kernel
theorem dX2_readLevel_76 : decode cX2_readLevel 76 = .ok (.invokevirtual 54, 3) := by decide +kernel
theorem dX2_readLevel_79 : decode cX2_readLevel 79 = .ok (.aload_n 0, 1) := by decide +kernel
theorem dX2_readLevel_80 : decode cX2_readLevel 80 = .ok (.iload 6, 2) := by decide +kernel
theorem dX2_readLevel_82 : decode cX2_readLevel 82 = .ok (.ineg, 1) := by decide +kernel
theorem dX2_readLevel_83 : decode cX2_readLevel 83 = .ok (.invokevirtual 115, 3) := by decide +kernel
theorem dX2_readLevel_86 : decode cX2_readLevel 86 = .ok (.iinc 5 1, 3) := by decide +kernel
theorem dX2_readLevel_89 : decode cX2_readLevel 89 = .ok (.goto (-52), 3) := by decide +kernel
theorem dX2_readLevel_92 : decode cX2_readLevel 92 = .ok (.return_, 1) := by decide +kernel
theorem dX2_readPiece_0 : decode cX2_readPiece 0 = .ok (.aload_n 0, 1) := by decide +kernel
theorem dX2_readPiece_1 : decode cX2_readPiece 1 = .ok (.getfield 18, 3) := by decide +kernel
theorem dX2_readPiece_4 : decode cX2_readPiece 4 = .ok (.iconst 2, 1) := by decide +kernel
theorem dX2_readPiece_5 : decode cX2_readPiece 5 = .ok (.if_icmp .ne 27, 3) := by decide +kernel
theorem dX2_readPiece_8 : decode cX2_readPiece 8 = .ok (.aload_n 0, 1) := by decide +kernel
theorem dX2_readPiece_9 : decode cX2_readPiece 9 = .ok (.getfield 25, 3) := by decide +kernel
theorem dX2_readPiece_12 : decode cX2_readPiece 12 = .ok (.aload_n 0, 1) := by decide +kernel
theorem dX2_readPiece_13 : decode cX2_readPiece 13 = .ok (.getfield 22, 3) := by decide +kernel
theorem dX2_readPiece_16 : decode cX2_readPiece 16 = .ok (.isub, 1) := by decide +kernel
theorem dX2_readPiece_17 : decode cX2_readPiece 17 = .ok (.iconst 4, 1) := by decide +kernel
theorem dX2_readPiece_18 : decode cX2_readPiece 18 = .ok (.if_icmp .gt 14, 3) := by decide +kernel
theorem dX2_readPiece_21 : decode cX2_readPiece 21 = .ok (.aload_n 0, 1) := by decide +kernel
theorem dX2_readPiece_22 : decode cX2_readPiece 22 = .ok (.aload_n 0, 1) := by decide +kernel
theorem dX2_readPiece_23 : decode cX2_readPiece 23 = .ok (.invokevirtual 119, 3) := by decide +kernel
theorem dX2_readPiece_26 : decode cX2_readPiece 26 = .ok (.invokevirtual 122, 3) := by decide +kernel
theorem dX2_readPiece_29 : decode cX2_readPiece 29 = .ok (.goto 122, 3) := by decide +kernel
theorem dX2_readPiece_32 : decode cX2_readPiece 32 = .ok (.aload_n 0, 1) := by decide +kernel
theorem dX2_readPiece_33 : decode cX2_readPiece 33 = .ok (.getfield 18, 3) := by decide +kernel
theorem dX2_readPiece_36 : decode cX2_readPiece 36 = .ok (.iconst 1, 1) := by decide +kernel
theorem dX2_readPiece_37 : decode cX2_readPiece 37 = .ok (.if_icmp .ne 23, 3) := by decide +kernel
theorem dX2_readPiece_40 : decode cX2_readPiece 40 = .ok (.aload_n 0, 1) := by decide +kernel
theorem dX2_readPiece_41 : decode cX2_readPiece 41 = .ok (.invokevirtual 125, 3) := by decide +kernel
theorem dX2_readPiece_44 : decode cX2_readPiece 44 = .ok (.ifCond .lt 16, 3) := by decide +kernel
theorem dX2_readPiece_47 : decode cX2_readPiece 47 = .ok (.aload_n 0, 1) := by decide +kernel
theorem dX2_readPiece_48 : decode cX2_readPiece 48 = .ok (.iconst (-1), 1) := by decide +kernel
theorem dX2_readPiece_49 : decode cX2_readPiece 49 = .ok (.aload_n 0, 1) := by decide +kernel
theorem dX2_readPiece_50 : decode cX2_readPiece 50 = .ok (.invokevirtual 125, 3) := by decide +kernel
theorem dX2_readPiece_53 : decode cX2_readPiece 53 = .ok (.isub, 1) := by decide +kernel
theorem dX2_readPiece_54 : decode cX2_readPiece 54 = .ok (.invokevirtual 122, 3) := by decide +kernel
theorem dX2_readPiece_57 : decode cX2_readPiece 57 = .ok (.goto 94, 3) := by decide +kernel
theorem dX2_readPiece_60 : decode cX2_readPiece 60 = .ok (.aload_n 0, 1) := by decide +kernel
theorem dX2_readPiece_61 : decode cX2_readPiece 61 = .ok (.bipush 33, 2) := by decide +kernel
theorem dX2_readPiece_63 : decode cX2_readPiece 63 = .ok (.invokevirtual 128, 3) := by decide +kernel
theorem dX2_readPiece_66 : decode cX2_readPiece 66 = .ok (.ifCond .eq 30, 3) := by decide +kernel
theorem dX2_readPiece_69 : decode cX2_readPiece 69 = .ok (.iload_n 2, 1) := by decide +kernel
theorem dX2_readPiece_70 : decode cX2_readPiece 70 = .ok (.bipush 8, 2) := by decide +kernel
theorem dX2_readPiece_72 : decode cX2_readPiece 72 = .ok (.if_icmp .ge 24, 3) := by decide +kernel
theorem dX2_readPiece_75 : decode cX2_readPiece 75 = .ok (.aload_n 0, 1) := by decide +kernel
theorem dX2_readPiece_76 : decode cX2_readPiece 76 = .ok (.invokevirtual 44, 3) := by decide +kernel
theorem dX2_readPiece_79 : decode cX2_readPiece 79 = .ok (.aload_n 0, 1) := by decide +kernel
theorem dX2_readPiece_80 : decode cX2_readPiece 80 = .ok (.iload_n 1, 1) := by decide +kernel
theorem dX2_readPiece_81 : decode cX2_readPiece 81 = .ok (.iload_n 2, 1) := by decide +kernel
theorem dX2_readPiece_82 : decode cX2_readPiece 82 = .ok (.iconst 1, 1) := by decide +kernel
theorem dX2_readPiece_83 : decode cX2_readPiece 83 = .ok (.iadd, 1) := by decide +kernel
theorem dX2_readPiece_84 : decode cX2_readPiece 84 = .ok (.invokevirtual 108, 3) := by decide +kernel
theorem dX2_readPiece_87 : decode cX2_readPiece 87 = .ok (.aload_n 0, 1) := by decide +kernel
theorem dX2_readPiece_88 : decode cX2_readPiece 88 = .ok (.bipush (-33), 2) := by decide +kernel
theorem dX2_readPiece_90 : decode cX2_readPiece 90 = .ok (.invokevirtual 115, 3) := by decide +kernel
theorem dX2_readPiece_93 : decode cX2_readPiece 93 = .ok (.goto 58, 3) := by decide +kernel
theorem dX2_readPiece_96 : decode cX2_readPiece 96 = .ok (.aload_n 0, 1) := by decide +kernel
theorem dX2_readPiece_97 : decode cX2_readPiece 97 = .ok (.bipush 40, 2) := by decide +kernel
theorem dX2_readPiece_99 : decode cX2_readPiece 99 = .ok (.invokevirtual 128, 3) := by decide +kernel
theorem dX2_readPiece_102 : decode cX2_readPiece 102 = .ok (.ifCond .eq 45, 3) := by decide +kernel
theorem dX2_readPiece_105 : decode cX2_readPiece 105 = .ok (.iload_n 1, 1) := by decide +kernel
theorem dX2_readPiece_106 : decode cX2_readPiece 106 = .ok (.bipush 8, 2) := by decide +kernel
theorem dX2_readPiece_108 : decode cX2_readPiece 108 = .ok (.if_icmp .ge 39, 3) := by decide +kernel
theorem dX2_readPiece_111 : decode cX2_readPiece 111 = .ok (.aload_n 0, 1) := by decide +kernel
theorem dX2_readPiece_112 : decode cX2_readPiece 112 = .ok (.invokevirtual 44, 3) := by decide +kernel
theorem dX2_readPiece_115 : decode cX2_readPiece 115 = .ok (.aload_n 0, 1) := by decide +kernel
theorem dX2_readPiece_116 : decode cX2_readPiece 116 = .ok (.iconst 0, 1) := by decide +kernel
theorem dX2_readPiece_117 : decode cX2_readPiece 117 = .ok (.iload_n 1, 1) := by decide +kernel
theorem dX2_readPiece_118 : decode cX2_readPiece 118 = .ok (.iconst 1, 1) := by decide +kernel
theorem dX2_readPiece_119 : decode cX2_readPiece 119 = .ok (.iadd, 1) := by decide +kernel
theorem dX2_readPiece_120 : decode cX2_readPiece 120 = .ok (.iload_n 2, 1) := by decide +kernel
theorem dX2_readPiece_121 : decode cX2_readPiece 121 = .ok (.invokevirtual 54, 3) := by decide +kernel
theorem dX2_readPiece_124 : decode cX2_readPiece 124 = .ok (.aload_n 0, 1) := by decide +kernel
theorem dX2_readPiece_125 : decode cX2_readPiece 125 = .ok (.bipush 41, 2) := by decide +kernel
theorem dX2_readPiece_127 : decode cX2_readPiece 127 = .ok (.invokevirtual 128, 3) := by decide +kernel
theorem dX2_readPiece_130 : decode cX2_readPiece 130 = .ok (.ifCond .eq 10, 3) := by decide +kernel
theorem dX2_readPiece_133 : decode cX2_readPiece 133 = .ok (.aload_n 0, 1) := by decide +kernel
theorem dX2_readPiece_134 : decode cX2_readPiece 134 = .ok (.invokevirtual 44, 3) := by decide +kernel
theorem dX2_readPiece_137 : decode cX2_readPiece 137 = .ok (.goto 14, 3) := by decide +kernel
theorem dX2_readPiece_140 : decode cX2_readPiece 140 = .ok (.aload_n 0, 1) := by decide +kernel
theorem dX2_readPiece_141 : decode cX2_readPiece 141 = .ok (.invokevirtual 51, 3) := by decide +kernel
theorem dX2_readPiece_144 : decode cX2_readPiece 144 = .ok (.goto 7, 3) := by decide +kernel
theorem dX2_readPiece_147 : decode cX2_readPiece 147 = .ok (.aload_n 0, 1) := by decide +kernel
theorem dX2_readPiece_148 : decode cX2_readPiece 148 = .ok (.invokevirtual 51, 3) := by decide +kernel
theorem dX2_readPiece_151 : decode cX2_readPiece 151 = .ok (.return_, 1) := by decide +kernel
theorem dX2_readOperand_0 : decode cX2_readOperand 0 = .ok (.aload_n 0, 1) := by decide +kernel
theorem dX2_readOperand_1 : decode cX2_readOperand 1 = .ok (.iload_n 1, 1) := by decide +kernel
theorem dX2_readOperand_2 : decode cX2_readOperand 2 = .ok (.invokevirtual 115, 3) := by decide +kernel
theorem dX2_readOperand_5 : decode cX2_readOperand 5 = .ok (.aload_n 0, 1) := by decide +kernel
theorem dX2_readOperand_6 : decode cX2_readOperand 6 = .ok (.dup, 1) := by decide +kernel
theorem dX2_readOperand_7 : decode cX2_readOperand 7 = .ok (.getfield 41, 3) := by decide +kernel
theorem dX2_readOperand_10 : decode cX2_readOperand 10 = .ok (.iconst 1, 1) := by decide +kernel
theorem dX2_readOperand_11 : decode cX2_readOperand 11 = .ok (.iadd, 1) := by decide +kernel
theorem dX2_readOperand_12 : decode cX2_readOperand 12 = .ok (.putfield 41, 3) := by decide +kernel
theorem dX2_readOperand_15 : decode cX2_readOperand 15 = .ok (.aload_n 0, 1) := by decide +kernel
theorem dX2_readOperand_16 : decode cX2_readOperand 16 = .ok (.invokevirtual 44, 3) := by decide +kernel
theorem dX2_readOperand_19 : decode cX2_readOperand 19 = .ok (.return_, 1) := by decide +kernel
theorem dX2_numberHere_0 : decode cX2_numberHere 0 = .ok (.iconst 0, 1) := by decide +kernel
theorem dX2_numberHere_1 : decode cX2_numberHere 1 = .ok (.istore_n 1, 1) := by decide +kernel
theorem dX2_numberHere_2 : decode cX2_numberHere 2 = .ok (.aload_n 0, 1) := by decide +kernel
theorem dX2_numberHere_3 : decode cX2_numberHere 3 = .ok (.getfield 22, 3) := by decide +kernel
theorem dX2_numberHere_6 : decode cX2_numberHere 6 = .ok (.istore_n 2, 1) := by decide +kernel
theorem dX2_numberHere_7 : decode cX2_numberHere 7 = .ok (.iload_n 2, 1) := by decide +kernel
theorem dX2_numberHere_8 : decode cX2_numberHere 8 = .ok (.aload_n 0, 1) := by decide +kernel
theorem dX2_numberHere_9 : decode cX2_numberHere 9 = .ok (.getfield 25, 3) := by decide +kernel
theorem dX2_numberHere_12 : decode cX2_numberHere 12 = .ok (.if_icmp .ge 38, 3) := by decide +kernel
theorem dX2_numberHere_15 : decode cX2_numberHere 15 = .ok (.iload_n 2, 1) := by decide +kernel
theorem dX2_numberHere_16 : decode cX2_numberHere 16 = .ok (.aload_n 0, 1) := by decide +kernel
theorem dX2_numberHere_17 : decode cX2_numberHere 17 = .ok (.getfield 12, 3) := by decide +kernel
theorem dX2_numberHere_20 : decode cX2_numberHere 20 = .ok (.getfield 81, 3) := by decide +kernel
theorem dX2_numberHere_23 : decode cX2_numberHere 23 = .ok (.if_icmp .ge 27, 3) := by decide +kernel
theorem dX2_numberHere_26 : decode cX2_numberHere 26 = .ok (.iload_n 1, 1) := by decide +kernel
theorem dX2_numberHere_27 : decode cX2_numberHere 27 = .ok (.bipush 10, 2) := by decide +kernel
theorem dX2_numberHere_29 : decode cX2_numberHere 29 = .ok (.imul, 1) := by decide +kernel
theorem dX2_numberHere_30 : decode cX2_numberHere 30 = .ok (.aload_n 0, 1) := by decide +kernel
theorem dX2_numberHere_31 : decode cX2_numberHere 31 = .ok (.getfield 12, 3) := by decide +kernel
theorem dX2_numberHere_34 : decode cX2_numberHere 34 = .ok (.getfield 84, 3) := by decide +kernel
theorem dX2_numberHere_37 : decode cX2_numberHere 37 = .ok (.iload_n 2, 1) := by decide +kernel
theorem dX2_numberHere_38 : decode cX2_numberHere 38 = .ok (.baload, 1) := by decide +kernel
theorem dX2_numberHere_39 : decode cX2_numberHere 39 = .ok (.bipush 48, 2) := by decide +kernel
theorem dX2_numberHere_41 : decode cX2_numberHere 41 = .ok (.isub, 1) := by decide +kernel
theorem dX2_numberHere_42 : decode cX2_numberHere 42 = .ok (.iadd, 1) := by decide +kernel
theorem dX2_numberHere_43 : decode cX2_numberHere 43 = .ok (.istore_n 1, 1) := by decide +kernel
theorem dX2_numberHere_44 : decode cX2_numberHere 44 = .ok (.iinc 2 1, 3) := by decide +kernel
theorem dX2_numberHere_47 : decode cX2_numberHere 47 = .ok (.goto (-40), 3) := by decide +kernel
theorem dX2_numberHere_50 : decode cX2_numberHere 50 = .ok (.iload_n 1, 1) := by decide +kernel
theorem dX2_numberHere_51 : decode cX2_numberHere 51 = .ok (.ireturn, 1) := by decide +kernel
theorem dX2_nameHere_0 : decode cX2_nameHere 0 = .ok (.aload_n 0, 1) := by decide +kernel
theorem dX2_nameHere_1 : decode cX2_nameHere 1 = .ok (.getfield 25, 3) := by decide +kernel
theorem dX2_nameHere_4 : decode cX2_nameHere 4 = .ok (.aload_n 0, 1) := by decide +kernel
theorem dX2_nameHere_5 : decode cX2_nameHere 5 = .ok (.getfield 22, 3) := by decide +kernel
theorem dX2_nameHere_8 : decode cX2_nameHere 8 = .ok (.isub, 1) := by decide +kernel
theorem dX2_nameHere_9 : decode cX2_nameHere 9 = .ok (.iconst 1, 1) := by decide +kernel
theorem dX2_nameHere_10 : decode cX2_nameHere 10 = .ok (.if_icmp .ne 17, 3) := by decide +kernel
theorem dX2_nameHere_13 : decode cX2_nameHere 13 = .ok (.aload_n 0, 1) := by decide +kernel
theorem dX2_nameHere_14 : decode cX2_nameHere 14 = .ok (.getfield 22, 3) := by decide +kernel
theorem dX2_nameHere_17 : decode cX2_nameHere 17 = .ok (.aload_n 0, 1) := by decide +kernel
theorem dX2_nameHere_18 : decode cX2_nameHere 18 = .ok (.getfield 12, 3) := by decide +kernel
theorem dX2_nameHere_21 : decode cX2_nameHere 21 = .ok (.getfield 81, 3) := by decide +kernel
theorem dX2_nameHere_24 : decode cX2_nameHere 24 = .ok (.if_icmp .lt 5, 3) := by decide +kernel
theorem dX2_nameHere_27 : decode cX2_nameHere 27 = .ok (.iconst (-1), 1) := by decide +kernel
theorem dX2_nameHere_28 : decode cX2_nameHere 28 = .ok (.ireturn, 1) := by decide +kernel
theorem dX2_nameHere_29 : decode cX2_nameHere 29 = .ok (.aload_n 0, 1) := by decide +kernel
theorem dX2_nameHere_30 : decode cX2_nameHere 30 = .ok (.getfield 31, 3) := by decide +kernel
theorem dX2_nameHere_33 : decode cX2_nameHere 33 = .ok (.invokestatic 132, 3) := by decide +kernel
theorem dX2_nameHere_36 : decode cX2_nameHere 36 = .ok (.aload_n 0, 1) := by decide +kernel
theorem dX2_nameHere_37 : decode cX2_nameHere 37 = .ok (.getfield 12, 3) := by decide +kernel
theorem dX2_nameHere_40 : decode cX2_nameHere 40 = .ok (.getfield 84, 3) := by decide +kernel
theorem dX2_nameHere_43 : decode cX2_nameHere 43 = .ok (.aload_n 0, 1) := by decide +kernel
theorem dX2_nameHere_44 : decode cX2_nameHere 44 = .ok (.getfield 22, 3) := by decide +kernel
theorem dX2_nameHere_47 : decode cX2_nameHere 47 = .ok (.baload, 1) := by decide +kernel
theorem dX2_nameHere_48 : decode cX2_nameHere 48 = .ok (.i2c, 1) := by decide +kernel
theorem dX2_nameHere_49 : decode cX2_nameHere 49 = .ok (.invokevirtual 135, 3) := by decide +kernel
theorem dX2_nameHere_52 : decode cX2_nameHere 52 = .ok (.ireturn, 1) := by decide +kernel
theorem dX2_addStep_0 : decode cX2_addStep 0 = .ok (.aload_n 0, 1) := by decide +kernel
theorem dX2_addStep_1 : decode cX2_addStep 1 = .ok (.getfield 38, 3) := by decide +kernel
theorem dX2_addStep_4 : decode cX2_addStep 4 = .ok (.aload_n 0, 1) := by decide +kernel
theorem dX2_addStep_5 : decode cX2_addStep 5 = .ok (.getfield 34, 3) := by decide +kernel
theorem dX2_addStep_8 : decode cX2_addStep 8 = .ok (.arraylength, 1) := by decide +kernel
theorem dX2_addStep_9 : decode cX2_addStep 9 = .ok (.if_icmp .ge 23, 3) := by decide +kernel
theorem dX2_addStep_12 : decode cX2_addStep 12 = .ok (.aload_n 0, 1) := by decide +kernel
theorem dX2_addStep_13 : decode cX2_addStep 13 = .ok (.getfield 34, 3) := by decide +kernel
theorem dX2_addStep_16 : decode cX2_addStep 16 = .ok (.aload_n 0, 1) := by decide +kernel
theorem dX2_addStep_17 : decode cX2_addStep 17 = .ok (.getfield 38, 3) := by decide +kernel
theorem dX2_addStep_20 : decode cX2_addStep 20 = .ok (.iload_n 1, 1) := by decide +kernel
theorem dX2_addStep_21 : decode cX2_addStep 21 = .ok (.iastore, 1) := by decide +kernel
theorem dX2_addStep_22 : decode cX2_addStep 22 = .ok (.aload_n 0, 1) := by decide +kernel
theorem dX2_addStep_23 : decode cX2_addStep 23 = .ok (.dup, 1) := by decide +kernel
theorem dX2_addStep_24 : decode cX2_addStep 24 = .ok (.getfield 38, 3) := by decide +kernel
theorem dX2_addStep_27 : decode cX2_addStep 27 = .ok (.iconst 1, 1) := by decide +kernel
theorem dX2_addStep_28 : decode cX2_addStep 28 = .ok (.iadd, 1) := by decide +kernel
theorem dX2_addStep_29 : decode cX2_addStep 29 = .ok (.putfield 38, 3) := by decide +kernel
theorem dX2_addStep_32 : decode cX2_addStep 32 = .ok (.return_, 1) := by decide +kernel
theorem dX3_init_0 : decode cX3_init 0 = .ok (.aload_n 0, 1) := by decide +kernel
theorem dX3_init_1 : decode cX3_init 1 = .ok (.invokespecial 3, 3) := by decide +kernel
theorem dX3_init_4 : decode cX3_init 4 = .ok (.aload_n 0, 1) := by decide +kernel
theorem dX3_init_5 : decode cX3_init 5 = .ok (.iconst (-1), 1) := by decide +kernel
theorem dX3_init_6 : decode cX3_init 6 = .ok (.putfield 9, 3) := by decide +kernel
theorem dX3_init_9 : decode cX3_init 9 = .ok (.aload_n 0, 1) := by decide +kernel
theorem dX3_init_10 : decode cX3_init 10 = .ok (.iconst 0, 1) := by decide +kernel
theorem dX3_init_11 : decode cX3_init 11 = .ok (.putfield 15, 3) := by decide +kernel
theorem dX3_init_14 : decode cX3_init 14 = .ok (.aload_n 0, 1) := by decide +kernel
theorem dX3_init_15 : decode cX3_init 15 = .ok (.bipush 24, 2) := by decide +kernel
theorem dX3_init_17 : decode cX3_init 17 = .ok (.newarray .int, 2) := by decide +kernel
theorem dX3_init_19 : decode cX3_init 19 = .ok (.putfield 18, 3) := by decide +kernel
theorem dX3_init_22 : decode cX3_init 22 = .ok (.return_, 1) := by decide +kernel
theorem dX3_begin_0 : decode cX3_begin 0 = .ok (.aload_n 0, 1) := by decide +kernel
theorem dX3_begin_1 : decode cX3_begin 1 = .ok (.iload_n 1, 1) := by decide +kernel
theorem dX3_begin_2 : decode cX3_begin 2 = .ok (.putfield 9, 3) := by decide +kernel
theorem dX3_begin_5 : decode cX3_begin 5 = .ok (.aload_n 0, 1) := by decide +kernel
theorem dX3_begin_6 : decode cX3_begin 6 = .ok (.iload_n 2, 1) := by decide +kernel
theorem dX3_begin_7 : decode cX3_begin 7 = .ok (.putfield 15, 3) := by decide +kernel
theorem dX3_begin_10 : decode cX3_begin 10 = .ok (.aload_n 0, 1) := by decide +kernel
theorem dX3_begin_11 : decode cX3_begin 11 = .ok (.getfield 18, 3) := by decide +kernel
theorem dX3_begin_14 : decode cX3_begin 14 = .ok (.iconst 0, 1) := by decide +kernel
theorem dX3_begin_15 : decode cX3_begin 15 = .ok (.invokestatic 22, 3) := by decide +kernel
theorem dX3_begin_18 : decode cX3_begin 18 = .ok (.return_, 1) := by decide +kernel
theorem dX3_become_0 : decode cX3_become 0 = .ok (.aload_n 0, 1) := by decide +kernel
theorem dX3_become_1 : decode cX3_become 1 = .ok (.aload_n 1, 1) := by decide +kernel
theorem dX3_become_2 : decode cX3_become 2 = .ok (.getfield 9, 3) := by decide +kernel
theorem dX3_become_5 : decode cX3_become 5 = .ok (.putfield 9, 3) := by decide +kernel
theorem dX3_become_8 : decode cX3_become 8 = .ok (.aload_n 0, 1) := by decide +kernel
theorem dX3_become_9 : decode cX3_become 9 = .ok (.aload_n 1, 1) := by decide +kernel
theorem dX3_become_10 : decode cX3_become 10 = .ok (.getfield 15, 3) := by decide +kernel
theorem dX3_become_13 : decode cX3_become 13 = .ok (.putfield 15, 3) := by decide +kernel
theorem dX3_become_16 : decode cX3_become 16 = .ok (.aload_n 1, 1) := by decide +kernel
theorem dX3_become_17 : decode cX3_become 17 = .ok (.getfield 18, 3) := by decide +kernel
theorem dX3_become_20 : decode cX3_become 20 = .ok (.iconst 0, 1) := by decide +kernel
theorem dX3_become_21 : decode cX3_become 21 = .ok (.aload_n 0, 1) := by decide +kernel
theorem dX3_become_22 : decode cX3_become 22 = .ok (.getfield 18, 3) := by decide +kernel
theorem dX3_become_25 : decode cX3_become 25 = .ok (.iconst 0, 1) := by decide +kernel
theorem dX3_become_26 : decode cX3_become 26 = .ok (.bipush 24, 2) := by decide +kernel
theorem dX3_become_28 : decode cX3_become 28 = .ok (.invokestatic 28, 3) := by decide +kernel
theorem dX3_become_31 : decode cX3_become 31 = .ok (.return_, 1) := by decide +kernel
theorem dX3_isMissing_0 : decode cX3_isMissing 0 = .ok (.aload_n 0, 1) := by decide +kernel
theorem dX3_isMissing_1 : decode cX3_isMissing 1 = .ok (.getfield 9, 3) := by decide +kernel
theorem dX3_isMissing_4 : decode cX3_isMissing 4 = .ok (.iconst (-1), 1) := by decide +kernel
theorem dX3_isMissing_5 : decode cX3_isMissing 5 = .ok (.if_icmp .ne 7, 3) := by decide +kernel
theorem dX3_isMissing_8 : decode cX3_isMissing 8 = .ok (.iconst 1, 1) := by decide +kernel
theorem dX3_isMissing_9 : decode cX3_isMissing 9 = .ok (.goto 4, 3) := by decide +kernel
theorem dX3_isMissing_12 : decode cX3_isMissing 12 = .ok (.iconst 0, 1) := by decide +kernel
theorem dX3_isMissing_13 : decode cX3_isMissing 13 = .ok (.ireturn, 1) := by decide +kernel
theorem dX3_has_0 : decode cX3_has 0 = .ok (.iload_n 1, 1) := by decide +kernel
theorem dX3_has_1 : decode cX3_has 1 = .ok (.iconst 0, 1) := by decide +kernel
theorem dX3_has_2 : decode cX3_has 2 = .ok (.aload_n 0, 1) := by decide +kernel
theorem dX3_has_3 : decode cX3_has 3 = .ok (.getfield 15, 3) := by decide +kernel
theorem dX3_has_6 : decode cX3_has 6 = .ok (.iconst 1, 1) := by decide +kernel
theorem dX3_has_7 : decode cX3_has 7 = .ok (.isub, 1) := by decide +kernel
theorem dX3_has_8 : decode cX3_has 8 = .ok (.invokestatic 34, 3) := by decide +kernel
theorem dX3_has_11 : decode cX3_has 11 = .ok (.ireturn, 1) := by decide +kernel
theorem dX3_hasAll_0 : decode cX3_hasAll 0 = .ok (.iload_n 1, 1) := by decide +kernel
theorem dX3_hasAll_1 : decode cX3_hasAll 1 = .ok (.iconst 0, 1) := by decide +kernel
theorem dX3_hasAll_2 : decode cX3_hasAll 2 = .ok (.aload_n 0, 1) := by decide +kernel
theorem dX3_hasAll_3 : decode cX3_hasAll 3 = .ok (.getfield 15, 3) := by decide +kernel
theorem dX3_hasAll_6 : decode cX3_hasAll 6 = .ok (.invokestatic 34, 3) := by decide +kernel
theorem dX3_hasAll_9 : decode cX3_hasAll 9 = .ok (.ifCond .eq 21, 3) := by decide +kernel
theorem dX3_hasAll_12 : decode cX3_hasAll 12 = .ok (.iload_n 2, 1) := by decide +kernel
theorem dX3_hasAll_13 : decode cX3_hasAll 13 = .ok (.iconst 0, 1) := by decide +kernel
theorem dX3_hasAll_14 : decode cX3_hasAll 14 = .ok (.aload_n 0, 1) := by decide +kernel
theorem dX3_hasAll_15 : decode cX3_hasAll 15 = .ok (.getfield 15, 3) := by decide +kernel
theorem dX3_hasAll_18 : decode cX3_hasAll 18 = .ok (.iload_n 1, 1) := by decide +kernel
theorem dX3_hasAll_19 : decode cX3_hasAll 19 = .ok (.isub, 1) := by decide +kernel
theorem dX3_hasAll_20 : decode cX3_hasAll 20 = .ok (.invokestatic 34, 3) := by decide +kernel
theorem dX3_hasAll_23 : decode cX3_hasAll 23 = .ok (.ifCond .eq 7, 3) := by decide +kernel
theorem dX3_hasAll_26 : decode cX3_hasAll 26 = .ok (.iconst 1, 1) := by decide +kernel
theorem dX3_hasAll_27 : decode cX3_hasAll 27 = .ok (.goto 4, 3) := by decide +kernel
theorem dX3_hasAll_30 : decode cX3_hasAll 30 = .ok (.iconst 0, 1) := by decide +kernel
theorem dX3_hasAll_31 : decode cX3_hasAll 31 = .ok (.ireturn, 1) := by decide +kernel
theorem dX3_isNumber_0 : decode cX3_isNumber 0 = .ok (.aload_n 0, 1) := by decide +kernel
theorem dX3_isNumber_1 : decode cX3_isNumber 1 = .ok (.iload_n 1, 1) := by decide +kernel
theorem dX3_isNumber_2 : decode cX3_isNumber 2 = .ok (.invokevirtual 38, 3) := by decide +kernel
theorem dX3_isNumber_5 : decode cX3_isNumber 5 = .ok (.ifCond .eq 18, 3) := by decide +kernel
theorem dX3_isNumber_8 : decode cX3_isNumber 8 = .ok (.aload_n 0, 1) := by decide +kernel
theorem dX3_isNumber_9 : decode cX3_isNumber 9 = .ok (.getfield 18, 3) := by decide +kernel
theorem dX3_isNumber_12 : decode cX3_isNumber 12 = .ok (.iload_n 1, 1) := by decide +kernel
theorem dX3_isNumber_13 : decode cX3_isNumber 13 = .ok (.iaload, 1) := by decide +kernel
theorem dX3_isNumber_14 : decode cX3_isNumber 14 = .ok (.ldc 42, 2) := by decide +kernel
theorem dX3_isNumber_16 : decode cX3_isNumber 16 = .ok (.if_icmp .eq 7, 3) := by decide +kernel
theorem dX3_isNumber_19 : decode cX3_isNumber 19 = .ok (.iconst 1, 1) := by decide +kernel
theorem dX3_isNumber_20 : decode cX3_isNumber 20 = .ok (.goto 4, 3) := by decide +kernel
theorem dX3_isNumber_23 : decode cX3_isNumber 23 = .ok (.iconst 0, 1) := by decide +kernel
theorem dX3_isNumber_24 : decode cX3_isNumber 24 = .ok (.ireturn, 1) := by decide +kernel
theorem dX4_init_0 : decode cX4_init 0 = .ok (.aload_n 0, 1) := by decide +kernel
theorem dX4_init_1 : decode cX4_init 1 = .ok (.invokespecial 3, 3) := by decide +kernel
theorem dX4_init_4 : decode cX4_init 4 = .ok (.aload_n 0, 1) := by decide +kernel
theorem dX4_init_5 : decode cX4_init 5 = .ok (.iconst 0, 1) := by decide +kernel
theorem dX4_init_6 : decode cX4_init 6 = .ok (.putfield 9, 3) := by decide +kernel
theorem dX4_init_9 : decode cX4_init 9 = .ok (.aload_n 0, 1) := by decide +kernel
theorem dX4_init_10 : decode cX4_init 10 = .ok (.iconst 0, 1) := by decide +kernel
theorem dX4_init_11 : decode cX4_init 11 = .ok (.putfield 15, 3) := by decide +kernel
theorem dX4_init_14 : decode cX4_init 14 = .ok (.aload_n 0, 1) := by decide +kernel
theorem dX4_init_15 : decode cX4_init 15 = .ok (.iconst 0, 1) := by decide +kernel
theorem dX4_init_16 : decode cX4_init 16 = .ok (.putfield 18, 3) := by decide +kernel
theorem dX4_init_19 : decode cX4_init 19 = .ok (.aload_n 0, 1) := by decide +kernel
theorem dX4_init_20 : decode cX4_init 20 = .ok (.iconst 0, 1) := by decide +kernel
theorem dX4_init_21 : decode cX4_init 21 = .ok (.putfield 21, 3) := by decide +kernel
theorem dX4_init_24 : decode cX4_init 24 = .ok (.aload_n 0, 1) := by decide +kernel
theorem dX4_init_25 : decode cX4_init 25 = .ok (.new 24, 3) := by decide +kernel
theorem dX4_init_28 : decode cX4_init 28 = .ok (.dup, 1) := by decide +kernel
theorem dX4_init_29 : decode cX4_init 29 = .ok (.invokespecial 26, 3) := by decide +kernel
theorem dX4_init_32 : decode cX4_init 32 = .ok (.putfield 27, 3) := by decide +kernel
theorem dX4_init_35 : decode cX4_init 35 = .ok (.return_, 1) := by decide +kernel
theorem dX5_init_0 : decode cX5_init 0 = .ok (.aload_n 0, 1) := by decide +kernel
theorem dX5_init_1 : decode cX5_init 1 = .ok (.invokespecial 3, 3) := by decide +kernel
theorem dX5_init_4 : decode cX5_init 4 = .ok (.aload_n 0, 1) := by decide +kernel
theorem dX5_init_5 : decode cX5_init 5 = .ok (.bipush 8, 2) := by decide +kernel
theorem dX5_init_7 : decode cX5_init 7 = .ok (.newarray .int, 2) := by decide +kernel
theorem dX5_init_9 : decode cX5_init 9 = .ok (.putfield 9, 3) := by decide +kernel
theorem dX5_init_12 : decode cX5_init 12 = .ok (.aload_n 0, 1) := by decide +kernel
theorem dX5_init_13 : decode cX5_init 13 = .ok (.bipush 9, 2) := by decide +kernel
theorem dX5_init_15 : decode cX5_init 15 = .ok (.newarray .int, 2) := by decide +kernel
theorem dX5_init_17 : decode cX5_init 17 = .ok (.putfield 15, 3) := by decide +kernel
theorem dX5_init_20 : decode cX5_init 20 = .ok (.aload_n 0, 1) := by decide +kernel
theorem dX5_init_21 : decode cX5_init 21 = .ok (.bipush 9, 2) := by decide +kernel
theorem dX5_init_23 : decode cX5_init 23 = .ok (.newarray .int, 2) := by decide +kernel
theorem dX5_init_25 : decode cX5_init 25 = .ok (.putfield 18, 3) := by decide +kernel
theorem dX5_init_28 : decode cX5_init 28 = .ok (.aload_n 0, 1) := by decide +kernel
theorem dX5_init_29 : decode cX5_init 29 = .ok (.bipush 9, 2) := by decide +kernel
theorem dX5_init_31 : decode cX5_init 31 = .ok (.newarray .int, 2) := by decide +kernel
theorem dX5_init_33 : decode cX5_init 33 = .ok (.putfield 21, 3) := by decide +kernel
theorem dX5_init_36 : decode cX5_init 36 = .ok (.aload_n 0, 1) := by decide +kernel
theorem dX5_init_37 : decode cX5_init 37 = .ok (.bipush 9, 2) := by decide +kernel
theorem dX5_init_39 : decode cX5_init 39 = .ok (.newarray .int, 2) := by decide +kernel
theorem dX5_init_41 : decode cX5_init 41 = .ok (.putfield 24, 3) := by decide +kernel
theorem dX5_init_44 : decode cX5_init 44 = .ok (.aload_n 0, 1) := by decide +kernel
theorem dX5_init_45 : decode cX5_init 45 = .ok (.bipush 9, 2) := by decide +kernel
theorem dX5_init_47 : decode cX5_init 47 = .ok (.newarray .int, 2) := by decide +kernel
theorem dX5_init_49 : decode cX5_init 49 = .ok (.putfield 27, 3) := by decide +kernel
theorem dX5_init_52 : decode cX5_init 52 = .ok (.aload_n 0, 1) := by decide +kernel
theorem dX5_init_53 : decode cX5_init 53 = .ok (.iconst 0, 1) := by decide +kernel
theorem dX5_init_54 : decode cX5_init 54 = .ok (.putfield 30, 3) := by decide +kernel
theorem dX5_init_57 : decode cX5_init 57 = .ok (.aload_n 0, 1) := by decide +kernel
theorem dX5_init_58 : decode cX5_init 58 = .ok (.bipush 20, 2) := by decide +kernel
theorem dX5_init_60 : decode cX5_init 60 = .ok (.putfield 34, 3) := by decide +kernel
theorem dX5_init_63 : decode cX5_init 63 = .ok (.aload_n 0, 1) := by decide +kernel
theorem dX5_init_64 : decode cX5_init 64 = .ok (.iconst 0, 1) := by decide +kernel
theorem dX5_init_65 : decode cX5_init 65 = .ok (.putfield 37, 3) := by decide +kernel
theorem dX5_init_68 : decode cX5_init 68 = .ok (.aload_n 0, 1) := by decide +kernel
theorem dX5_init_69 : decode cX5_init 69 = .ok (.bipush 8, 2) := by decide +kernel
theorem dX5_init_71 : decode cX5_init 71 = .ok (.putfield 41, 3) := by decide +kernel
theorem dX5_init_74 : decode cX5_init 74 = .ok (.aload_n 0, 1) := by decide +kernel
theorem dX5_init_75 : decode cX5_init 75 = .ok (.iconst 0, 1) := by decide +kernel
theorem dX5_init_76 : decode cX5_init 76 = .ok (.putfield 44, 3) := by decide +kernel
theorem dX5_init_79 : decode cX5_init 79 = .ok (.aload_n 0, 1) := by decide +kernel
theorem dX5_init_80 : decode cX5_init 80 = .ok (.iconst 0, 1) := by decide +kernel
theorem dX5_init_81 : decode cX5_init 81 = .ok (.putfield 47, 3) := by decide +kernel
theorem dX5_init_84 : decode cX5_init 84 = .ok (.aload_n 0, 1) := by decide +kernel
theorem dX5_init_85 : decode cX5_init 85 = .ok (.iconst 1, 1) := by decide +kernel
theorem dX5_init_86 : decode cX5_init 86 = .ok (.putfield 50, 3) := by decide +kernel
theorem dX5_init_89 : decode cX5_init 89 = .ok (.aload_n 0, 1) := by decide +kernel
theorem dX5_init_90 : decode cX5_init 90 = .ok (.iconst 0, 1) := by decide +kernel
theorem dX5_init_91 : decode cX5_init 91 = .ok (.putfield 53, 3) := by decide +kernel
theorem dX5_init_94 : decode cX5_init 94 = .ok (.return_, 1) := by decide +kernel
theorem dX5_become_0 : decode cX5_become 0 = .ok (.aload_n 1, 1) := by decide +kernel
theorem dX5_become_1 : decode cX5_become 1 = .ok (.getfield 9, 3) := by decide +kernel
theorem dX5_become_4 : decode cX5_become 4 = .ok (.iconst 0, 1) := by decide +kernel
theorem dX5_become_5 : decode cX5_become 5 = .ok (.aload_n 0, 1) := by decide +kernel
theorem dX5_become_6 : decode cX5_become 6 = .ok (.getfield 9, 3) := by decide +kernel
theorem dX5_become_9 : decode cX5_become 9 = .ok (.iconst 0, 1) := by decide +kernel
theorem dX5_become_10 : decode cX5_become 10 = .ok (.bipush 8, 2) := by decide +kernel
theorem dX5_become_12 : decode cX5_become 12 = .ok (.invokestatic 56, 3) := by decide +kernel
theorem dX5_become_15 : decode cX5_become 15 = .ok (.aload_n 1, 1) := by decide +kernel
theorem dX5_become_16 : decode cX5_become 16 = .ok (.getfield 15, 3) := by decide +kernel
theorem dX5_become_19 : decode cX5_become 19 = .ok (.iconst 0, 1) := by decide +kernel
theorem dX5_become_20 : decode cX5_become 20 = .ok (.aload_n 0, 1) := by decide +kernel
theorem dX5_become_21 : decode cX5_become 21 = .ok (.getfield 15, 3) := by decide +kernel
theorem dX5_become_24 : decode cX5_become 24 = .ok (.iconst 0, 1) := by decide +kernel
theorem dX5_become_25 : decode cX5_become 25 = .ok (.bipush 9, 2) := by decide +kernel
theorem dX5_become_27 : decode cX5_become 27 = .ok (.invokestatic 56, 3) := by decide +kernel
theorem dX5_become_30 : decode cX5_become 30 = .ok (.aload_n 1, 1) := by decide +kernel
theorem dX5_become_31 : decode cX5_become 31 = .ok (.getfield 18, 3) := by decide +kernel
theorem dX5_become_34 : decode cX5_become 34 = .ok (.iconst 0, 1) := by decide +kernel
theorem dX5_become_35 : decode cX5_become 35 = .ok (.aload_n 0, 1) := by decide +kernel
theorem dX5_become_36 : decode cX5_become 36 = .ok (.getfield 18, 3) := by decide +kernel
theorem dX5_become_39 : decode cX5_become 39 = .ok (.iconst 0, 1) := by decide +kernel
theorem dX5_become_40 : decode cX5_become 40 = .ok (.bipush 9, 2) := by decide +kernel
theorem dX5_become_42 : decode cX5_become 42 = .ok (.invokestatic 56, 3) := by decide +kernel
theorem dX5_become_45 : decode cX5_become 45 = .ok (.aload_n 1, 1) := by decide +kernel
theorem dX5_become_46 : decode cX5_become 46 = .ok (.getfield 21, 3) := by decide +kernel
theorem dX5_become_49 : decode cX5_become 49 = .ok (.iconst 0, 1) := by decide +kernel
theorem dX5_become_50 : decode cX5_become 50 = .ok (.aload_n 0, 1) := by decide +kernel
theorem dX5_become_51 : decode cX5_become 51 = .ok (.getfield 21, 3) := by decide +kernel
theorem dX5_become_54 : decode cX5_become 54 = .ok (.iconst 0, 1) := by decide +kernel
theorem dX5_become_55 : decode cX5_become 55 = .ok (.bipush 9, 2) := by decide +kernel
theorem dX5_become_57 : decode cX5_become 57 = .ok (.invokestatic 56, 3) := by decide +kernel
theorem dX5_become_60 : decode cX5_become 60 = .ok (.aload_n 1, 1) := by decide +kernel
theorem dX5_become_61 : decode cX5_become 61 = .ok (.getfield 24, 3) := by decide +kernel
theorem dX5_become_64 : decode cX5_become 64 = .ok (.iconst 0, 1) := by decide +kernel
theorem dX5_become_65 : decode cX5_become 65 = .ok (.aload_n 0, 1) := by decide +kernel
theorem dX5_become_66 : decode cX5_become 66 = .ok (.getfield 24, 3) := by decide +kernel
theorem dX5_become_69 : decode cX5_become 69 = .ok (.iconst 0, 1) := by decide +kernel
theorem dX5_become_70 : decode cX5_become 70 = .ok (.bipush 9, 2) := by decide +kernel
theorem dX5_become_72 : decode cX5_become 72 = .ok (.invokestatic 56, 3) := by decide +kernel
theorem dX5_become_75 : decode cX5_become 75 = .ok (.aload_n 1, 1) := by decide +kernel
theorem dX5_become_76 : decode cX5_become 76 = .ok (.getfield 27, 3) := by decide +kernel
theorem dX5_become_79 : decode cX5_become 79 = .ok (.iconst 0, 1) := by decide +kernel
theorem dX5_become_80 : decode cX5_become 80 = .ok (.aload_n 0, 1) := by decide +kernel
theorem dX5_become_81 : decode cX5_become 81 = .ok (.getfield 27, 3) := by decide +kernel
theorem dX5_become_84 : decode cX5_become 84 = .ok (.iconst 0, 1) := by decide +kernel
theorem dX5_become_85 : decode cX5_become 85 = .ok (.bipush 9, 2) := by decide +kernel
theorem dX5_become_87 : decode cX5_become 87 = .ok (.invokestatic 56, 3) := by decide +kernel
theorem dX5_become_90 : decode cX5_become 90 = .ok (.aload_n 0, 1) := by decide +kernel
theorem dX5_become_91 : decode cX5_become 91 = .ok (.aload_n 1, 1) := by decide +kernel
theorem dX5_become_92 : decode cX5_become 92 = .ok (.getfield 30, 3) := by decide +kernel
theorem dX5_become_95 : decode cX5_become 95 = .ok (.putfield 30, 3) := by decide +kernel
theorem dX5_become_98 : decode cX5_become 98 = .ok (.aload_n 0, 1) := by decide +kernel
theorem dX5_become_99 : decode cX5_become 99 = .ok (.aload_n 1, 1) := by decide +kernel
theorem dX5_become_100 : decode cX5_become 100 = .ok (.getfield 34, 3) := by decide +kernel
theorem dX5_become_103 : decode cX5_become 103 = .ok (.putfield 34, 3) := by decide +kernel
theorem dX5_become_106 : decode cX5_become 106 = .ok (.aload_n 0, 1) := by decide +kernel
theorem dX5_become_107 : decode cX5_become 107 = .ok (.aload_n 1, 1) := by decide +kernel
theorem dX5_become_108 : decode cX5_become 108 = .ok (.getfield 37, 3) := by decide +kernel
theorem dX5_become_111 : decode cX5_become 111 = .ok (.putfield 37, 3) := by decide +kernel
theorem dX5_become_114 : decode cX5_become 114 = .ok (.aload_n 0, 1) := by decide +kernel
theorem dX5_become_115 : decode cX5_become 115 = .ok (.aload_n 1, 1) := by decide +kernel
theorem dX5_become_116 : decode cX5_become 116 = .ok (.getfield 41, 3) := by decide +kernel
theorem dX5_become_119 : decode cX5_become 119 = .ok (.putfield 41, 3) := by decide +kernel
theorem dX5_become_122 : decode cX5_become 122 = .ok (.aload_n 0, 1) := by decide +kernel
theorem dX5_become_123 : decode cX5_become 123 = .ok (.aload_n 1, 1) := by decide +kernel
theorem dX5_become_124 : decode cX5_become 124 = .ok (.getfield 44, 3) := by decide +kernel
theorem dX5_become_127 : decode cX5_become 127 = .ok (.putfield 44, 3) := by decide +kernel
theorem dX5_become_130 : decode cX5_become 130 = .ok (.aload_n 0, 1) := by decide +kernel
theorem dX5_become_131 : decode cX5_become 131 = .ok (.aload_n 1, 1) := by decide +kernel
theorem dX5_become_132 : decode cX5_become 132 = .ok (.getfield 47, 3) := by decide +kernel
theorem dX5_become_135 : decode cX5_become 135 = .ok (.putfield 47, 3) := by decide +kernel
theorem dX5_become_138 : decode cX5_become 138 = .ok (.aload_n 0, 1) := by decide +kernel
theorem dX5_become_139 : decode cX5_become 139 = .ok (.aload_n 1, 1) := by decide +kernel
theorem dX5_become_140 : decode cX5_become 140 = .ok (.getfield 50, 3) := by decide +kernel
theorem dX5_become_143 : decode cX5_become 143 = .ok (.putfield 50, 3) := by decide +kernel
theorem dX5_become_146 : decode cX5_become 146 = .ok (.aload_n 0, 1) := by decide +kernel
theorem dX5_become_147 : decode cX5_become 147 = .ok (.aload_n 1, 1) := by decide +kernel
theorem dX5_become_148 : decode cX5_become 148 = .ok (.getfield 53, 3) := by decide +kernel
theorem dX5_become_151 : decode cX5_become 151 = .ok (.putfield 53, 3) := by decide +kernel
theorem dX5_become_154 : decode cX5_become 154 = .ok (.return_, 1) := by decide +kernel
theorem dX5_add_0 : decode cX5_add 0 = .ok (.aload_n 0, 1) := by decide +kernel
theorem dX5_add_1 : decode cX5_add 1 = .ok (.getfield 30, 3) := by decide +kernel
theorem dX5_add_4 : decode cX5_add 4 = .ok (.bipush 8, 2) := by decide +kernel
theorem dX5_add_6 : decode cX5_add 6 = .ok (.invokestatic 62, 3) := by decide +kernel
theorem dX5_add_9 : decode cX5_add 9 = .ok (.istore 4, 2) := by decide +kernel
theorem dX5_add_11 : decode cX5_add 11 = .ok (.aload_n 0, 1) := by decide +kernel
theorem dX5_add_12 : decode cX5_add 12 = .ok (.getfield 15, 3) := by decide +kernel
theorem dX5_add_15 : decode cX5_add 15 = .ok (.iload 4, 2) := by decide +kernel
theorem dX5_add_17 : decode cX5_add 17 = .ok (.iload_n 1, 1) := by decide +kernel
theorem dX5_add_18 : decode cX5_add 18 = .ok (.iastore, 1) := by decide +kernel
theorem dX5_add_19 : decode cX5_add 19 = .ok (.aload_n 0, 1) := by decide +kernel
theorem dX5_add_20 : decode cX5_add 20 = .ok (.getfield 18, 3) := by decide +kernel
theorem dX5_add_23 : decode cX5_add 23 = .ok (.iload 4, 2) := by decide +kernel
theorem dX5_add_25 : decode cX5_add 25 = .ok (.iload_n 2, 1) := by decide +kernel
theorem dX5_add_26 : decode cX5_add 26 = .ok (.iastore, 1) := by decide +kernel
theorem dX5_add_27 : decode cX5_add 27 = .ok (.aload_n 0, 1) := by decide +kernel
theorem dX5_add_28 : decode cX5_add 28 = .ok (.getfield 21, 3) := by decide +kernel
theorem dX5_add_31 : decode cX5_add 31 = .ok (.iload 4, 2) := by decide +kernel
theorem dX5_add_33 : decode cX5_add 33 = .ok (.iload_n 3, 1) := by decide +kernel
theorem dX5_add_34 : decode cX5_add 34 = .ok (.iastore, 1) := by decide +kernel
theorem dX5_add_35 : decode cX5_add 35 = .ok (.aload_n 0, 1) := by decide +kernel
theorem dX5_add_36 : decode cX5_add 36 = .ok (.getfield 24, 3) := by decide +kernel
theorem dX5_add_39 : decode cX5_add 39 = .ok (.iload 4, 2) := by decide +kernel
theorem dX5_add_41 : decode cX5_add 41 = .ok (.iconst 0, 1) := by decide +kernel
theorem dX5_add_42 : decode cX5_add 42 = .ok (.iastore, 1) := by decide +kernel
theorem dX5_add_43 : decode cX5_add 43 = .ok (.aload_n 0, 1) := by decide +kernel
theorem dX5_add_44 : decode cX5_add 44 = .ok (.getfield 27, 3) := by decide +kernel
theorem dX5_add_47 : decode cX5_add 47 = .ok (.iload 4, 2) := by decide +kernel
theorem dX5_add_49 : decode cX5_add 49 = .ok (.iconst 0, 1) := by decide +kernel
theorem dX5_add_50 : decode cX5_add 50 = .ok (.iastore, 1) := by decide +kernel
theorem dX5_add_51 : decode cX5_add 51 = .ok (.aload_n 0, 1) := by decide +kernel
theorem dX5_add_52 : decode cX5_add 52 = .ok (.iload 4, 2) := by decide +kernel
theorem dX5_add_54 : decode cX5_add 54 = .ok (.iconst 1, 1) := by decide +kernel
theorem dX5_add_55 : decode cX5_add 55 = .ok (.iadd, 1) := by decide +kernel
theorem dX5_add_56 : decode cX5_add 56 = .ok (.putfield 30, 3) := by decide +kernel
theorem dX5_add_59 : decode cX5_add 59 = .ok (.iload 4, 2) := by decide +kernel
theorem dX5_add_61 : decode cX5_add 61 = .ok (.ireturn, 1) := by decide +kernel
theorem dX5_letOut_0 : decode cX5_letOut 0 = .ok (.iconst 0, 1) := by decide +kernel
theorem dX5_letOut_1 : decode cX5_letOut 1 = .ok (.istore_n 3, 1) := by decide +kernel
theorem dX5_letOut_2 : decode cX5_letOut 2 = .ok (.iload_n 3, 1) := by decide +kernel
theorem dX5_letOut_3 : decode cX5_letOut 3 = .ok (.iload_n 2, 1) := by decide +kernel
theorem dX5_letOut_4 : decode cX5_letOut 4 = .ok (.if_icmp .ge 35, 3) := by decide +kernel
theorem dX5_letOut_7 : decode cX5_letOut 7 = .ok (.iload_n 3, 1) := by decide +kernel
theorem dX5_letOut_8 : decode cX5_letOut 8 = .ok (.aload_n 0, 1) := by decide +kernel
theorem dX5_letOut_9 : decode cX5_letOut 9 = .ok (.getfield 30, 3) := by decide +kernel
theorem dX5_letOut_12 : decode cX5_letOut 12 = .ok (.if_icmp .ge 27, 3) := by decide +kernel
theorem dX5_letOut_15 : decode cX5_letOut 15 = .ok (.aload_n 0, 1) := by decide +kernel
theorem dX5_letOut_16 : decode cX5_letOut 16 = .ok (.getfield 18, 3) := by decide +kernel
theorem dX5_letOut_19 : decode cX5_letOut 19 = .ok (.iload_n 3, 1) := by decide +kernel
theorem dX5_letOut_20 : decode cX5_letOut 20 = .ok (.iload_n 1, 1) := by decide +kernel
theorem dX5_letOut_21 : decode cX5_letOut 21 = .ok (.iconst 3, 1) := by decide +kernel
theorem dX5_letOut_22 : decode cX5_letOut 22 = .ok (.iload_n 2, 1) := by decide +kernel
theorem dX5_letOut_23 : decode cX5_letOut 23 = .ok (.iconst 1, 1) := by decide +kernel
theorem dX5_letOut_24 : decode cX5_letOut 24 = .ok (.isub, 1) := by decide +kernel
theorem dX5_letOut_25 : decode cX5_letOut 25 = .ok (.iload_n 3, 1) := by decide +kernel
theorem dX5_letOut_26 : decode cX5_letOut 26 = .ok (.isub, 1) := by decide +kernel
theorem dX5_letOut_27 : decode cX5_letOut 27 = .ok (.imul, 1) := by decide +kernel
theorem dX5_letOut_28 : decode cX5_letOut 28 = .ok (.ishr, 1) := by decide +kernel
theorem dX5_letOut_29 : decode cX5_letOut 29 = .ok (.bipush 7, 2) := by decide +kernel
theorem dX5_letOut_31 : decode cX5_letOut 31 = .ok (.iand, 1) := by decide +kernel
theorem dX5_letOut_32 : decode cX5_letOut 32 = .ok (.iastore, 1) := by decide +kernel
theorem dX5_letOut_33 : decode cX5_letOut 33 = .ok (.iinc 3 1, 3) := by decide +kernel
theorem dX5_letOut_36 : decode cX5_letOut 36 = .ok (.goto (-34), 3) := by decide +kernel
theorem dX5_letOut_39 : decode cX5_letOut 39 = .ok (.return_, 1) := by decide +kernel
theorem dX5_isAgainstLaw_0 : decode cX5_isAgainstLaw 0 = .ok (.iconst 0, 1) := by decide +kernel
theorem dX5_isAgainstLaw_1 : decode cX5_isAgainstLaw 1 = .ok (.istore_n 2, 1) := by decide +kernel
theorem dX5_isAgainstLaw_2 : decode cX5_isAgainstLaw 2 = .ok (.iload_n 2, 1) := by decide +kernel
theorem dX5_isAgainstLaw_3 : decode cX5_isAgainstLaw 3 = .ok (.iload_n 1, 1) := by decide +kernel
theorem dX5_isAgainstLaw_4 : decode cX5_isAgainstLaw 4 = .ok (.if_icmp .ge 28, 3) := by decide +kernel
theorem dX5_isAgainstLaw_7 : decode cX5_isAgainstLaw 7 = .ok (.iload_n 1, 1) := by decide +kernel
theorem dX5_isAgainstLaw_8 : decode cX5_isAgainstLaw 8 = .ok (.aload_n 0, 1) := by decide +kernel
theorem dX5_isAgainstLaw_9 : decode cX5_isAgainstLaw 9 = .ok (.getfield 30, 3) := by decide +kernel
theorem dX5_isAgainstLaw_12 : decode cX5_isAgainstLaw 12 = .ok (.if_icmp .ge 20, 3) := by decide +kernel
theorem dX5_isAgainstLaw_15 : decode cX5_isAgainstLaw 15 = .ok (.aload_n 0, 1) := by decide +kernel
theorem dX5_isAgainstLaw_16 : decode cX5_isAgainstLaw 16 = .ok (.iload_n 2, 1) := by decide +kernel
theorem dX5_isAgainstLaw_17 : decode cX5_isAgainstLaw 17 = .ok (.iload_n 1, 1) := by decide +kernel
theorem dX5_isAgainstLaw_18 : decode cX5_isAgainstLaw 18 = .ok (.invokevirtual 68, 3) := by decide +kernel
theorem dX5_isAgainstLaw_21 : decode cX5_isAgainstLaw 21 = .ok (.ifCond .eq 5, 3) := by decide +kernel
theorem dX5_isAgainstLaw_24 : decode cX5_isAgainstLaw 24 = .ok (.iconst 1, 1) := by decide +kernel
theorem dX5_isAgainstLaw_25 : decode cX5_isAgainstLaw 25 = .ok (.ireturn, 1) := by decide +kernel
theorem dX5_isAgainstLaw_26 : decode cX5_isAgainstLaw 26 = .ok (.iinc 2 1, 3) := by decide +kernel
theorem dX5_isAgainstLaw_29 : decode cX5_isAgainstLaw 29 = .ok (.goto (-27), 3) := by decide +kernel
theorem dX5_isAgainstLaw_32 : decode cX5_isAgainstLaw 32 = .ok (.iconst 0, 1) := by decide +kernel
theorem dX5_isAgainstLaw_33 : decode cX5_isAgainstLaw 33 = .ok (.ireturn, 1) := by decide +kernel
theorem dX5_offends_0 : decode cX5_offends 0 = .ok (.aload_n 0, 1) := by decide +kernel
theorem dX5_offends_1 : decode cX5_offends 1 = .ok (.getfield 18, 3) := by decide +kernel
theorem dX5_offends_4 : decode cX5_offends 4 = .ok (.iload_n 1, 1) := by decide +kernel
theorem dX5_offends_5 : decode cX5_offends 5 = .ok (.iaload, 1) := by decide +kernel
theorem dX5_offends_6 : decode cX5_offends 6 = .ok (.bipush 8, 2) := by decide +kernel
theorem dX5_offends_8 : decode cX5_offends 8 = .ok (.if_icmp .eq 14, 3) := by decide +kernel
theorem dX5_offends_11 : decode cX5_offends 11 = .ok (.aload_n 0, 1) := by decide +kernel
theorem dX5_offends_12 : decode cX5_offends 12 = .ok (.getfield 18, 3) := by decide +kernel
theorem dX5_offends_15 : decode cX5_offends 15 = .ok (.iload_n 2, 1) := by decide +kernel
theorem dX5_offends_16 : decode cX5_offends 16 = .ok (.iaload, 1) := by decide +kernel
theorem dX5_offends_17 : decode cX5_offends 17 = .ok (.bipush 8, 2) := by decide +kernel
theorem dX5_offends_19 : decode cX5_offends 19 = .ok (.if_icmp .ne 5, 3) := by decide +kernel
theorem dX5_offends_22 : decode cX5_offends 22 = .ok (.iconst 0, 1) := by decide +kernel
theorem dX5_offends_23 : decode cX5_offends 23 = .ok (.ireturn, 1) := by decide +kernel
theorem dX5_offends_24 : decode cX5_offends 24 = .ok (.aload_n 0, 1) := by decide +kernel
theorem dX5_offends_25 : decode cX5_offends 25 = .ok (.getfield 18, 3) := by decide +kernel
theorem dX5_offends_28 : decode cX5_offends 28 = .ok (.iload_n 1, 1) := by decide +kernel
theorem dX5_offends_29 : decode cX5_offends 29 = .ok (.iaload, 1) := by decide +kernel
theorem dX5_offends_30 : decode cX5_offends 30 = .ok (.aload_n 0, 1) := by decide +kernel
theorem dX5_offends_31 : decode cX5_offends 31 = .ok (.getfield 18, 3) := by decide +kernel
theorem dX5_offends_34 : decode cX5_offends 34 = .ok (.iload_n 2, 1) := by decide +kernel
theorem dX5_offends_35 : decode cX5_offends 35 = .ok (.iaload, 1) := by decide +kernel
theorem dX5_offends_36 : decode cX5_offends 36 = .ok (.isub, 1) := by decide +kernel
theorem dX5_offends_37 : decode cX5_offends 37 = .ok (.invokestatic 72, 3) := by decide +kernel
theorem dX5_offends_40 : decode cX5_offends 40 = .ok (.istore_n 3, 1) := by decide +kernel
theorem dX5_offends_41 : decode cX5_offends 41 = .ok (.iload_n 3, 1) := by decide +kernel
theorem dX5_offends_42 : decode cX5_offends 42 = .ok (.ifCond .eq 23, 3) := by decide +kernel
theorem dX5_offends_45 : decode cX5_offends 45 = .ok (.iload_n 3, 1) := by decide +kernel
theorem dX5_offends_46 : decode cX5_offends 46 = .ok (.iconst 1, 1) := by decide +kernel
theorem dX5_offends_47 : decode cX5_offends 47 = .ok (.if_icmp .ne 22, 3) := by decide +kernel
theorem dX5_offends_50 : decode cX5_offends 50 = .ok (.aload_n 0, 1) := by decide +kernel
theorem dX5_offends_51 : decode cX5_offends 51 = .ok (.getfield 15, 3) := by decide +kernel
theorem dX5_offends_54 : decode cX5_offends 54 = .ok (.iload_n 1, 1) := by decide +kernel
theorem dX5_offends_55 : decode cX5_offends 55 = .ok (.iaload, 1) := by decide +kernel
theorem dX5_offends_56 : decode cX5_offends 56 = .ok (.aload_n 0, 1) := by decide +kernel
theorem dX5_offends_57 : decode cX5_offends 57 = .ok (.getfield 15, 3) := by decide +kernel
theorem dX5_offends_60 : decode cX5_offends 60 = .ok (.iload_n 2, 1) := by decide +kernel
theorem dX5_offends_61 : decode cX5_offends 61 = .ok (.iaload, 1) := by decide +kernel
theorem dX5_offends_62 : decode cX5_offends 62 = .ok (.if_icmp .ne 7, 3) := by decide +kernel
theorem dX5_offends_65 : decode cX5_offends 65 = .ok (.iconst 1, 1) := by decide +kernel
theorem dX5_offends_66 : decode cX5_offends 66 = .ok (.goto 4, 3) := by decide +kernel
theorem dX5_offends_69 : decode cX5_offends 69 = .ok (.iconst 0, 1) := by decide +kernel
theorem dX5_offends_70 : decode cX5_offends 70 = .ok (.ireturn, 1) := by decide +kernel
theorem dX5_againstLaw_0 : decode cX5_againstLaw 0 = .ok (.iconst 0, 1) := by decide +kernel
theorem dX5_againstLaw_1 : decode cX5_againstLaw 1 = .ok (.istore_n 1, 1) := by decide +kernel
theorem dX5_againstLaw_2 : decode cX5_againstLaw 2 = .ok (.iconst 0, 1) := by decide +kernel
theorem dX5_againstLaw_3 : decode cX5_againstLaw 3 = .ok (.istore_n 2, 1) := by decide +kernel
theorem dX5_againstLaw_4 : decode cX5_againstLaw 4 = .ok (.iload_n 2, 1) := by decide +kernel
theorem dX5_againstLaw_5 : decode cX5_againstLaw 5 = .ok (.aload_n 0, 1) := by decide +kernel
theorem dX5_againstLaw_6 : decode cX5_againstLaw 6 = .ok (.getfield 30, 3) := by decide +kernel
theorem dX5_againstLaw_9 : decode cX5_againstLaw 9 = .ok (.if_icmp .ge 23, 3) := by decide +kernel
theorem dX5_againstLaw_12 : decode cX5_againstLaw 12 = .ok (.aload_n 0, 1) := by decide +kernel
theorem dX5_againstLaw_13 : decode cX5_againstLaw 13 = .ok (.iload_n 2, 1) := by decide +kernel
theorem dX5_againstLaw_14 : decode cX5_againstLaw 14 = .ok (.invokevirtual 76, 3) := by decide +kernel
theorem dX5_againstLaw_17 : decode cX5_againstLaw 17 = .ok (.ifCond .eq 9, 3) := by decide +kernel
theorem dX5_againstLaw_20 : decode cX5_againstLaw 20 = .ok (.iload_n 1, 1) := by decide +kernel
theorem dX5_againstLaw_21 : decode cX5_againstLaw 21 = .ok (.iconst 1, 1) := by decide +kernel
theorem dX5_againstLaw_22 : decode cX5_againstLaw 22 = .ok (.iload_n 2, 1) := by decide +kernel
theorem dX5_againstLaw_23 : decode cX5_againstLaw 23 = .ok (.ishl, 1) := by decide +kernel
theorem dX5_againstLaw_24 : decode cX5_againstLaw 24 = .ok (.ior, 1) := by decide +kernel
theorem dX5_againstLaw_25 : decode cX5_againstLaw 25 = .ok (.istore_n 1, 1) := by decide +kernel
theorem dX5_againstLaw_26 : decode cX5_againstLaw 26 = .ok (.iinc 2 1, 3) := by decide +kernel
theorem dX5_againstLaw_29 : decode cX5_againstLaw 29 = .ok (.goto (-25), 3) := by decide +kernel
theorem dX5_againstLaw_32 : decode cX5_againstLaw 32 = .ok (.iload_n 1, 1) := by decide +kernel
theorem dX5_againstLaw_33 : decode cX5_againstLaw 33 = .ok (.ireturn, 1) := by decide +kernel
theorem dX5_taken_0 : decode cX5_taken 0 = .ok (.iconst 0, 1) := by decide +kernel
theorem dX5_taken_1 : decode cX5_taken 1 = .ok (.istore_n 1, 1) := by decide +kernel
theorem dX5_taken_2 : decode cX5_taken 2 = .ok (.iconst 0, 1) := by decide +kernel
theorem dX5_taken_3 : decode cX5_taken 3 = .ok (.istore_n 2, 1) := by decide +kernel
theorem dX5_taken_4 : decode cX5_taken 4 = .ok (.iload_n 2, 1) := by decide +kernel
theorem dX5_taken_5 : decode cX5_taken 5 = .ok (.aload_n 0, 1) := by decide +kernel
theorem dX5_taken_6 : decode cX5_taken 6 = .ok (.getfield 30, 3) := by decide +kernel
theorem dX5_taken_9 : decode cX5_taken 9 = .ok (.if_icmp .ge 31, 3) := by decide +kernel
theorem dX5_taken_12 : decode cX5_taken 12 = .ok (.aload_n 0, 1) := by decide +kernel
theorem dX5_taken_13 : decode cX5_taken 13 = .ok (.getfield 18, 3) := by decide +kernel
theorem dX5_taken_16 : decode cX5_taken 16 = .ok (.iload_n 2, 1) := by decide +kernel
theorem dX5_taken_17 : decode cX5_taken 17 = .ok (.iaload, 1) := by decide +kernel
theorem dX5_taken_18 : decode cX5_taken 18 = .ok (.bipush 8, 2) := by decide +kernel
theorem dX5_taken_20 : decode cX5_taken 20 = .ok (.if_icmp .eq 14, 3) := by decide +kernel
theorem dX5_taken_23 : decode cX5_taken 23 = .ok (.iload_n 1, 1) := by decide +kernel
theorem dX5_taken_24 : decode cX5_taken 24 = .ok (.iconst 1, 1) := by decide +kernel
theorem dX5_taken_25 : decode cX5_taken 25 = .ok (.aload_n 0, 1) := by decide +kernel
theorem dX5_taken_26 : decode cX5_taken 26 = .ok (.getfield 18, 3) := by decide +kernel
theorem dX5_taken_29 : decode cX5_taken 29 = .ok (.iload_n 2, 1) := by decide +kernel
theorem dX5_taken_30 : decode cX5_taken 30 = .ok (.iaload, 1) := by decide +kernel
theorem dX5_taken_31 : decode cX5_taken 31 = .ok (.ishl, 1) := by decide +kernel
theorem dX5_taken_32 : decode cX5_taken 32 = .ok (.ior, 1) := by decide +kernel
theorem dX5_taken_33 : decode cX5_taken 33 = .ok (.istore_n 1, 1) := by decide +kernel
theorem dX5_taken_34 : decode cX5_taken 34 = .ok (.iinc 2 1, 3) := by decide +kernel
theorem dX5_taken_37 : decode cX5_taken 37 = .ok (.goto (-33), 3) := by decide +kernel
theorem dX5_taken_40 : decode cX5_taken 40 = .ok (.iload_n 1, 1) := by decide +kernel
theorem dX5_taken_41 : decode cX5_taken 41 = .ok (.ireturn, 1) := by decide +kernel
theorem dX5_allPurses_0 : decode cX5_allPurses 0 = .ok (.iconst 0, 1) := by decide +kernel
theorem dX5_allPurses_1 : decode cX5_allPurses 1 = .ok (.istore_n 1, 1) := by decide +kernel
theorem dX5_allPurses_2 : decode cX5_allPurses 2 = .ok (.iconst 0, 1) := by decide +kernel
theorem dX5_allPurses_3 : decode cX5_allPurses 3 = .ok (.istore_n 2, 1) := by decide +kernel
theorem dX5_allPurses_4 : decode cX5_allPurses 4 = .ok (.iload_n 2, 1) := by decide +kernel
theorem dX5_allPurses_5 : decode cX5_allPurses 5 = .ok (.aload_n 0, 1) := by decide +kernel
theorem dX5_allPurses_6 : decode cX5_allPurses 6 = .ok (.getfield 30, 3) := by decide +kernel
theorem dX5_allPurses_9 : decode cX5_allPurses 9 = .ok (.if_icmp .ge 18, 3) := by decide +kernel
theorem dX5_allPurses_12 : decode cX5_allPurses 12 = .ok (.iload_n 1, 1) := by decide +kernel
theorem dX5_allPurses_13 : decode cX5_allPurses 13 = .ok (.aload_n 0, 1) := by decide +kernel
theorem dX5_allPurses_14 : decode cX5_allPurses 14 = .ok (.getfield 24, 3) := by decide +kernel
theorem dX5_allPurses_17 : decode cX5_allPurses 17 = .ok (.iload_n 2, 1) := by decide +kernel
theorem dX5_allPurses_18 : decode cX5_allPurses 18 = .ok (.iaload, 1) := by decide +kernel
theorem dX5_allPurses_19 : decode cX5_allPurses 19 = .ok (.iadd, 1) := by decide +kernel
theorem dX5_allPurses_20 : decode cX5_allPurses 20 = .ok (.istore_n 1, 1) := by decide +kernel
theorem dX5_allPurses_21 : decode cX5_allPurses 21 = .ok (.iinc 2 1, 3) := by decide +kernel
theorem dX5_allPurses_24 : decode cX5_allPurses 24 = .ok (.goto (-20), 3) := by decide +kernel
theorem dX5_allPurses_27 : decode cX5_allPurses 27 = .ok (.iload_n 1, 1) := by decide +kernel
theorem dX5_allPurses_28 : decode cX5_allPurses 28 = .ok (.ireturn, 1) := by decide +kernel
theorem dX5_allHats_0 : decode cX5_allHats 0 = .ok (.iconst 0, 1) := by decide +kernel
theorem dX5_allHats_1 : decode cX5_allHats 1 = .ok (.istore_n 1, 1) := by decide +kernel
theorem dX5_allHats_2 : decode cX5_allHats 2 = .ok (.iconst 0, 1) := by decide +kernel
theorem dX5_allHats_3 : decode cX5_allHats 3 = .ok (.istore_n 2, 1) := by decide +kernel
theorem dX5_allHats_4 : decode cX5_allHats 4 = .ok (.iload_n 2, 1) := by decide +kernel
theorem dX5_allHats_5 : decode cX5_allHats 5 = .ok (.aload_n 0, 1) := by decide +kernel
theorem dX5_allHats_6 : decode cX5_allHats 6 = .ok (.getfield 30, 3) := by decide +kernel
theorem dX5_allHats_9 : decode cX5_allHats 9 = .ok (.if_icmp .ge 18, 3) := by decide +kernel
theorem dX5_allHats_12 : decode cX5_allHats 12 = .ok (.iload_n 1, 1) := by decide +kernel
theorem dX5_allHats_13 : decode cX5_allHats 13 = .ok (.aload_n 0, 1) := by decide +kernel
theorem dX5_allHats_14 : decode cX5_allHats 14 = .ok (.getfield 27, 3) := by decide +kernel
theorem dX5_allHats_17 : decode cX5_allHats 17 = .ok (.iload_n 2, 1) := by decide +kernel
theorem dX5_allHats_18 : decode cX5_allHats 18 = .ok (.iaload, 1) := by decide +kernel
theorem dX5_allHats_19 : decode cX5_allHats 19 = .ok (.iadd, 1) := by decide +kernel
theorem dX5_allHats_20 : decode cX5_allHats 20 = .ok (.istore_n 1, 1) := by decide +kernel
theorem dX5_allHats_21 : decode cX5_allHats 21 = .ok (.iinc 2 1, 3) := by decide +kernel
theorem dX5_allHats_24 : decode cX5_allHats 24 = .ok (.goto (-20), 3) := by decide +kernel
theorem dX5_allHats_27 : decode cX5_allHats 27 = .ok (.iload_n 1, 1) := by decide +kernel
theorem dX5_allHats_28 : decode cX5_allHats 28 = .ok (.ireturn, 1) := by decide +kernel
theorem dX5_anyInDebt_0 : decode cX5_anyInDebt 0 = .ok (.iconst 0, 1) := by decide +kernel
theorem dX5_anyInDebt_1 : decode cX5_anyInDebt 1 = .ok (.istore_n 1, 1) := by decide +kernel
theorem dX5_anyInDebt_2 : decode cX5_anyInDebt 2 = .ok (.iload_n 1, 1) := by decide +kernel
theorem dX5_anyInDebt_3 : decode cX5_anyInDebt 3 = .ok (.aload_n 0, 1) := by decide +kernel
theorem dX5_anyInDebt_4 : decode cX5_anyInDebt 4 = .ok (.getfield 30, 3) := by decide +kernel
theorem dX5_anyInDebt_7 : decode cX5_anyInDebt 7 = .ok (.if_icmp .ge 20, 3) := by decide +kernel
theorem dX5_anyInDebt_10 : decode cX5_anyInDebt 10 = .ok (.aload_n 0, 1) := by decide +kernel
theorem dX5_anyInDebt_11 : decode cX5_anyInDebt 11 = .ok (.getfield 24, 3) := by decide +kernel
theorem dX5_anyInDebt_14 : decode cX5_anyInDebt 14 = .ok (.iload_n 1, 1) := by decide +kernel
theorem dX5_anyInDebt_15 : decode cX5_anyInDebt 15 = .ok (.iaload, 1) := by decide +kernel
theorem dX5_anyInDebt_16 : decode cX5_anyInDebt 16 = .ok (.ifCond .ge 5, 3) := by decide +kernel
theorem dX5_anyInDebt_19 : decode cX5_anyInDebt 19 = .ok (.iconst 1, 1) := by decide +kernel
theorem dX5_anyInDebt_20 : decode cX5_anyInDebt 20 = .ok (.ireturn, 1) := by decide +kernel
theorem dX5_anyInDebt_21 : decode cX5_anyInDebt 21 = .ok (.iinc 1 1, 3) := by decide +kernel
theorem dX5_anyInDebt_24 : decode cX5_anyInDebt 24 = .ok (.goto (-22), 3) := by decide +kernel
theorem dX5_anyInDebt_27 : decode cX5_anyInDebt 27 = .ok (.iconst 0, 1) := by decide +kernel
theorem dX5_anyInDebt_28 : decode cX5_anyInDebt 28 = .ok (.ireturn, 1) := by decide +kernel
theorem dX5_draw_0 : decode cX5_draw 0 = .ok (.aload_n 0, 1) := by decide +kernel
theorem dX5_draw_1 : decode cX5_draw 1 = .ok (.aload_n 0, 1) := by decide +kernel
theorem dX5_draw_2 : decode cX5_draw 2 = .ok (.getfield 50, 3) := by decide +kernel
theorem dX5_draw_5 : decode cX5_draw 5 = .ok (.ldc 80, 2) := by decide +kernel
theorem dX5_draw_7 : decode cX5_draw 7 = .ok (.imul, 1) := by decide +kernel
theorem dX5_draw_8 : decode cX5_draw 8 = .ok (.sipush 12345, 3) := by decide +kernel
theorem dX5_draw_11 : decode cX5_draw 11 = .ok (.iadd, 1) := by decide +kernel
theorem dX5_draw_12 : decode cX5_draw 12 = .ok (.putfield 50, 3) := by decide +kernel
theorem dX5_draw_15 : decode cX5_draw 15 = .ok (.aload_n 0, 1) := by decide +kernel
theorem dX5_draw_16 : decode cX5_draw 16 = .ok (.getfield 50, 3) := by decide +kernel
theorem dX5_draw_19 : decode cX5_draw 19 = .ok (.bipush 8, 2) := by decide +kernel
theorem dX5_draw_21 : decode cX5_draw 21 = .ok (.iushr, 1) := by decide +kernel
theorem dX5_draw_22 : decode cX5_draw 22 = .ok (.ireturn, 1) := by decide +kernel
theorem dX5_passHours_0 : decode cX5_passHours 0 = .ok (.iconst 0, 1) := by decide +kernel
theorem dX5_passHours_1 : decode cX5_passHours 1 = .ok (.istore_n 3, 1) := by decide +kernel
theorem dX5_passHours_2 : decode cX5_passHours 2 = .ok (.iload_n 3, 1) := by decide +kernel
theorem dX5_passHours_3 : decode cX5_passHours 3 = .ok (.iload_n 1, 1) := by decide +kernel
theorem dX5_passHours_4 : decode cX5_passHours 4 = .ok (.if_icmp .ge 14, 3) := by decide +kernel
theorem dX5_passHours_7 : decode cX5_passHours 7 = .ok (.aload_n 0, 1) := by decide +kernel
theorem dX5_passHours_8 : decode cX5_passHours 8 = .ok (.aload_n 2, 1) := by decide +kernel
theorem dX5_passHours_9 : decode cX5_passHours 9 = .ok (.invokevirtual 81, 3) := by decide +kernel
theorem dX5_passHours_12 : decode cX5_passHours 12 = .ok (.iinc 3 1, 3) := by decide +kernel
theorem dX5_passHours_15 : decode cX5_passHours 15 = .ok (.goto (-13), 3) := by decide +kernel
theorem dX5_passHours_18 : decode cX5_passHours 18 = .ok (.return_, 1) := by decide +kernel
theorem dX5_passHour_0 : decode cX5_passHour 0 = .ok (.aload_n 0, 1) := by decide +kernel
theorem dX5_passHour_1 : decode cX5_passHour 1 = .ok (.invokevirtual 85, 3) := by decide +kernel
theorem dX5_passHour_4 : decode cX5_passHour 4 = .ok (.bipush 100, 2) := by decide +kernel
theorem dX5_passHour_6 : decode cX5_passHour 6 = .ok (.irem, 1) := by decide +kernel
theorem dX5_passHour_7 : decode cX5_passHour 7 = .ok (.aload_n 0, 1) := by decide +kernel
theorem dX5_passHour_8 : decode cX5_passHour 8 = .ok (.getfield 34, 3) := by decide +kernel
theorem dX5_passHour_11 : decode cX5_passHour 11 = .ok (.if_icmp .ge 19, 3) := by decide +kernel
theorem dX5_passHour_14 : decode cX5_passHour 14 = .ok (.aload_n 0, 1) := by decide +kernel
theorem dX5_passHour_15 : decode cX5_passHour 15 = .ok (.aload_n 0, 1) := by decide +kernel
theorem dX5_passHour_16 : decode cX5_passHour 16 = .ok (.getfield 37, 3) := by decide +kernel
theorem dX5_passHour_19 : decode cX5_passHour 19 = .ok (.ifCond .ne 7, 3) := by decide +kernel
theorem dX5_passHour_22 : decode cX5_passHour 22 = .ok (.iconst 1, 1) := by decide +kernel
theorem dX5_passHour_23 : decode cX5_passHour 23 = .ok (.goto 4, 3) := by decide +kernel
theorem dX5_passHour_26 : decode cX5_passHour 26 = .ok (.iconst 0, 1) := by decide +kernel
theorem dX5_passHour_27 : decode cX5_passHour 27 = .ok (.putfield 37, 3) := by decide +kernel
theorem dX5_passHour_30 : decode cX5_passHour 30 = .ok (.aload_n 0, 1) := by decide +kernel
theorem dX5_passHour_31 : decode cX5_passHour 31 = .ok (.invokevirtual 89, 3) := by decide +kernel
theorem dX5_passHour_34 : decode cX5_passHour 34 = .ok (.aload_n 0, 1) := by decide +kernel
theorem dX5_passHour_35 : decode cX5_passHour 35 = .ok (.getfield 37, 3) := by decide +kernel
theorem dX5_passHour_38 : decode cX5_passHour 38 = .ok (.ifCond .eq 7, 3) := by decide +kernel
theorem dX5_passHour_41 : decode cX5_passHour 41 = .ok (.iconst 2, 1) := by decide +kernel
theorem dX5_passHour_42 : decode cX5_passHour 42 = .ok (.goto 4, 3) := by decide +kernel
theorem dX5_passHour_45 : decode cX5_passHour 45 = .ok (.iconst 3, 1) := by decide +kernel
theorem dX5_passHour_46 : decode cX5_passHour 46 = .ok (.istore_n 2, 1) := by decide +kernel
theorem dX5_passHour_47 : decode cX5_passHour 47 = .ok (.iconst 0, 1) := by decide +kernel
theorem dX5_passHour_48 : decode cX5_passHour 48 = .ok (.istore_n 3, 1) := by decide +kernel
theorem dX5_passHour_49 : decode cX5_passHour 49 = .ok (.iload_n 3, 1) := by decide +kernel
theorem dX5_passHour_50 : decode cX5_passHour 50 = .ok (.iload_n 2, 1) := by decide +kernel
theorem dX5_passHour_51 : decode cX5_passHour 51 = .ok (.if_icmp .ge 60, 3) := by decide +kernel
theorem dX5_passHour_54 : decode cX5_passHour 54 = .ok (.aload_n 0, 1) := by decide +kernel
theorem dX5_passHour_55 : decode cX5_passHour 55 = .ok (.invokevirtual 85, 3) := by decide +kernel
theorem dX5_passHour_58 : decode cX5_passHour 58 = .ok (.bipush 8, 2) := by decide +kernel
theorem dX5_passHour_60 : decode cX5_passHour 60 = .ok (.irem, 1) := by decide +kernel
theorem dX5_passHour_61 : decode cX5_passHour 61 = .ok (.istore 4, 2) := by decide +kernel
theorem dX5_passHour_63 : decode cX5_passHour 63 = .ok (.aload_n 0, 1) := by decide +kernel
theorem dX5_passHour_64 : decode cX5_passHour 64 = .ok (.invokevirtual 85, 3) := by decide +kernel
theorem dX5_passHour_67 : decode cX5_passHour 67 = .ok (.bipush 8, 2) := by decide +kernel
theorem dX5_passHour_69 : decode cX5_passHour 69 = .ok (.irem, 1) := by decide +kernel
theorem dX5_passHour_70 : decode cX5_passHour 70 = .ok (.istore 5, 2) := by decide +kernel
theorem dX5_passHour_72 : decode cX5_passHour 72 = .ok (.iconst 1, 1) := by decide +kernel
theorem dX5_passHour_73 : decode cX5_passHour 73 = .ok (.aload_n 0, 1) := by decide +kernel
theorem dX5_passHour_74 : decode cX5_passHour 74 = .ok (.invokevirtual 85, 3) := by decide +kernel
theorem dX5_passHour_77 : decode cX5_passHour 77 = .ok (.bipush 9, 2) := by decide +kernel
theorem dX5_passHour_79 : decode cX5_passHour 79 = .ok (.irem, 1) := by decide +kernel
theorem dX5_passHour_80 : decode cX5_passHour 80 = .ok (.iadd, 1) := by decide +kernel
theorem dX5_passHour_81 : decode cX5_passHour 81 = .ok (.istore 6, 2) := by decide +kernel
theorem dX5_passHour_83 : decode cX5_passHour 83 = .ok (.aload_n 0, 1) := by decide +kernel
theorem dX5_passHour_84 : decode cX5_passHour 84 = .ok (.invokevirtual 85, 3) := by decide +kernel
theorem dX5_passHour_87 : decode cX5_passHour 87 = .ok (.bipush 10, 2) := by decide +kernel
theorem dX5_passHour_89 : decode cX5_passHour 89 = .ok (.irem, 1) := by decide +kernel
theorem dX5_passHour_90 : decode cX5_passHour 90 = .ok (.istore 7, 2) := by decide +kernel
theorem dX5_passHour_92 : decode cX5_passHour 92 = .ok (.aload_n 0, 1) := by decide +kernel
theorem dX5_passHour_93 : decode cX5_passHour 93 = .ok (.iload 4, 2) := by decide +kernel
theorem dX5_passHour_95 : decode cX5_passHour 95 = .ok (.iload 5, 2) := by decide +kernel
theorem dX5_passHour_97 : decode cX5_passHour 97 = .ok (.iload 6, 2) := by decide +kernel
theorem dX5_passHour_99 : decode cX5_passHour 99 = .ok (.iload 7, 2) := by decide +kernel
theorem dX5_passHour_101 : decode cX5_passHour 101 = .ok (.aload_n 1, 1) := by decide +kernel
theorem dX5_passHour_102 : decode cX5_passHour 102 = .ok (.invokevirtual 92, 3) := by decide +kernel
theorem dX5_passHour_105 : decode cX5_passHour 105 = .ok (.iinc 3 1, 3) := by decide +kernel
theorem dX5_passHour_108 : decode cX5_passHour 108 = .ok (.goto (-59), 3) := by decide +kernel
theorem dX5_passHour_111 : decode cX5_passHour 111 = .ok (.aload_n 0, 1) := by decide +kernel
theorem dX5_passHour_112 : decode cX5_passHour 112 = .ok (.getfield 41, 3) := by decide +kernel
theorem dX5_passHour_115 : decode cX5_passHour 115 = .ok (.bipush 8, 2) := by decide +kernel
theorem dX5_passHour_117 : decode cX5_passHour 117 = .ok (.if_icmp .eq 20, 3) := by decide +kernel
theorem dX5_passHour_120 : decode cX5_passHour 120 = .ok (.aload_n 0, 1) := by decide +kernel
theorem dX5_passHour_121 : decode cX5_passHour 121 = .ok (.aload_n 0, 1) := by decide +kernel
theorem dX5_passHour_122 : decode cX5_passHour 122 = .ok (.getfield 41, 3) := by decide +kernel
theorem dX5_passHour_125 : decode cX5_passHour 125 = .ok (.aload_n 0, 1) := by decide +kernel
theorem dX5_passHour_126 : decode cX5_passHour 126 = .ok (.getfield 41, 3) := by decide +kernel
theorem dX5_passHour_129 : decode cX5_passHour 129 = .ok (.bipush 9, 2) := by decide +kernel
theorem dX5_passHour_131 : decode cX5_passHour 131 = .ok (.bipush 9, 2) := by decide +kernel
theorem dX5_passHour_133 : decode cX5_passHour 133 = .ok (.aload_n 1, 1) := by decide +kernel
theorem dX5_passHour_134 : decode cX5_passHour 134 = .ok (.invokevirtual 92, 3) := by decide +kernel
theorem dX5_passHour_137 : decode cX5_passHour 137 = .ok (.aload_n 0, 1) := by decide +kernel
theorem dX5_passHour_138 : decode cX5_passHour 138 = .ok (.dup, 1) := by decide +kernel
theorem dX5_passHour_139 : decode cX5_passHour 139 = .ok (.getfield 47, 3) := by decide +kernel
theorem dX5_passHour_142 : decode cX5_passHour 142 = .ok (.iconst 1, 1) := by decide +kernel
theorem dX5_passHour_143 : decode cX5_passHour 143 = .ok (.iadd, 1) := by decide +kernel
theorem dX5_passHour_144 : decode cX5_passHour 144 = .ok (.putfield 47, 3) := by decide +kernel
theorem dX5_passHour_147 : decode cX5_passHour 147 = .ok (.return_, 1) := by decide +kernel
theorem dX5_payRents_0 : decode cX5_payRents 0 = .ok (.iconst 0, 1) := by decide +kernel
theorem dX5_payRents_1 : decode cX5_payRents 1 = .ok (.istore_n 1, 1) := by decide +kernel
theorem dX5_payRents_2 : decode cX5_payRents 2 = .ok (.iload_n 1, 1) := by decide +kernel
theorem dX5_payRents_3 : decode cX5_payRents 3 = .ok (.aload_n 0, 1) := by decide +kernel
theorem dX5_payRents_4 : decode cX5_payRents 4 = .ok (.getfield 30, 3) := by decide +kernel
theorem dX5_payRents_7 : decode cX5_payRents 7 = .ok (.if_icmp .ge 61, 3) := by decide +kernel
theorem dX5_payRents_10 : decode cX5_payRents 10 = .ok (.aload_n 0, 1) := by decide +kernel
theorem dX5_payRents_11 : decode cX5_payRents 11 = .ok (.getfield 18, 3) := by decide +kernel
theorem dX5_payRents_14 : decode cX5_payRents 14 = .ok (.iload_n 1, 1) := by decide +kernel
theorem dX5_payRents_15 : decode cX5_payRents 15 = .ok (.iaload, 1) := by decide +kernel
theorem dX5_payRents_16 : decode cX5_payRents 16 = .ok (.invokestatic 96, 3) := by decide +kernel
theorem dX5_payRents_19 : decode cX5_payRents 19 = .ok (.ifCond .eq 43, 3) := by decide +kernel
theorem dX5_payRents_22 : decode cX5_payRents 22 = .ok (.aload_n 0, 1) := by decide +kernel
theorem dX5_payRents_23 : decode cX5_payRents 23 = .ok (.getfield 24, 3) := by decide +kernel
theorem dX5_payRents_26 : decode cX5_payRents 26 = .ok (.iload_n 1, 1) := by decide +kernel
theorem dX5_payRents_27 : decode cX5_payRents 27 = .ok (.dup2, 1) := by decide +kernel
theorem dX5_payRents_28 : decode cX5_payRents 28 = .ok (.iaload, 1) := by decide +kernel
theorem dX5_payRents_29 : decode cX5_payRents 29 = .ok (.aload_n 0, 1) := by decide +kernel
theorem dX5_payRents_30 : decode cX5_payRents 30 = .ok (.getfield 9, 3) := by decide +kernel
theorem dX5_payRents_33 : decode cX5_payRents 33 = .ok (.aload_n 0, 1) := by decide +kernel
theorem dX5_payRents_34 : decode cX5_payRents 34 = .ok (.getfield 18, 3) := by decide +kernel
theorem dX5_payRents_37 : decode cX5_payRents 37 = .ok (.iload_n 1, 1) := by decide +kernel
theorem dX5_payRents_38 : decode cX5_payRents 38 = .ok (.iaload, 1) := by decide +kernel
theorem dX5_payRents_39 : decode cX5_payRents 39 = .ok (.iaload, 1) := by decide +kernel
theorem dX5_payRents_40 : decode cX5_payRents 40 = .ok (.isub, 1) := by decide +kernel
theorem dX5_payRents_41 : decode cX5_payRents 41 = .ok (.iastore, 1) := by decide +kernel
theorem dX5_payRents_42 : decode cX5_payRents 42 = .ok (.aload_n 0, 1) := by decide +kernel
theorem dX5_payRents_43 : decode cX5_payRents 43 = .ok (.dup, 1) := by decide +kernel
theorem dX5_payRents_44 : decode cX5_payRents 44 = .ok (.getfield 44, 3) := by decide +kernel
theorem dX5_payRents_47 : decode cX5_payRents 47 = .ok (.aload_n 0, 1) := by decide +kernel
theorem dX5_payRents_48 : decode cX5_payRents 48 = .ok (.getfield 9, 3) := by decide +kernel
theorem dX5_payRents_51 : decode cX5_payRents 51 = .ok (.aload_n 0, 1) := by decide +kernel
theorem dX5_payRents_52 : decode cX5_payRents 52 = .ok (.getfield 18, 3) := by decide +kernel
theorem dX5_payRents_55 : decode cX5_payRents 55 = .ok (.iload_n 1, 1) := by decide +kernel
theorem dX5_payRents_56 : decode cX5_payRents 56 = .ok (.iaload, 1) := by decide +kernel
theorem dX5_payRents_57 : decode cX5_payRents 57 = .ok (.iaload, 1) := by decide +kernel
theorem dX5_payRents_58 : decode cX5_payRents 58 = .ok (.iadd, 1) := by decide +kernel
theorem dX5_payRents_59 : decode cX5_payRents 59 = .ok (.putfield 44, 3) := by decide +kernel
theorem dX5_payRents_62 : decode cX5_payRents 62 = .ok (.iinc 1 1, 3) := by decide +kernel
theorem dX5_payRents_65 : decode cX5_payRents 65 = .ok (.goto (-63), 3) := by decide +kernel
theorem dX5_payRents_68 : decode cX5_payRents 68 = .ok (.return_, 1) := by decide +kernel
theorem dX5_walk_0 : decode cX5_walk 0 = .ok (.bipush 9, 2) := by decide +kernel
theorem dX5_walk_2 : decode cX5_walk 2 = .ok (.istore 6, 2) := by decide +kernel
theorem dX5_walk_4 : decode cX5_walk 4 = .ok (.iload_n 1, 1) := by decide +kernel
theorem dX5_walk_5 : decode cX5_walk 5 = .ok (.iload_n 2, 1) := by decide +kernel
theorem dX5_walk_6 : decode cX5_walk 6 = .ok (.if_icmp .gt 7, 3) := by decide +kernel
theorem dX5_walk_9 : decode cX5_walk 9 = .ok (.iconst 1, 1) := by decide +kernel
theorem dX5_walk_10 : decode cX5_walk 10 = .ok (.goto 4, 3) := by decide +kernel
theorem dX5_walk_13 : decode cX5_walk 13 = .ok (.iconst (-1), 1) := by decide +kernel
theorem dX5_walk_14 : decode cX5_walk 14 = .ok (.istore 7, 2) := by decide +kernel
theorem dX5_walk_16 : decode cX5_walk 16 = .ok (.iload_n 2, 1) := by decide +kernel
theorem dX5_walk_17 : decode cX5_walk 17 = .ok (.iload_n 1, 1) := by decide +kernel
theorem dX5_walk_18 : decode cX5_walk 18 = .ok (.isub, 1) := by decide +kernel
theorem dX5_walk_19 : decode cX5_walk 19 = .ok (.invokestatic 72, 3) := by decide +kernel
theorem dX5_walk_22 : decode cX5_walk 22 = .ok (.iconst 1, 1) := by decide +kernel
theorem dX5_walk_23 : decode cX5_walk 23 = .ok (.iadd, 1) := by decide +kernel
theorem dX5_walk_24 : decode cX5_walk 24 = .ok (.istore 8, 2) := by decide +kernel
theorem dX5_walk_26 : decode cX5_walk 26 = .ok (.iconst 0, 1) := by decide +kernel
theorem dX5_walk_27 : decode cX5_walk 27 = .ok (.istore 9, 2) := by decide +kernel
theorem dX5_walk_29 : decode cX5_walk 29 = .ok (.iload 9, 2) := by decide +kernel
theorem dX5_walk_31 : decode cX5_walk 31 = .ok (.iload 8, 2) := by decide +kernel
theorem dX5_walk_33 : decode cX5_walk 33 = .ok (.if_icmp .ge 105, 3) := by decide +kernel
theorem dX5_walk_36 : decode cX5_walk 36 = .ok (.iload_n 1, 1) := by decide +kernel
theorem dX5_walk_37 : decode cX5_walk 37 = .ok (.iload 9, 2) := by decide +kernel
theorem dX5_walk_39 : decode cX5_walk 39 = .ok (.iload 7, 2) := by decide +kernel
theorem dX5_walk_41 : decode cX5_walk 41 = .ok (.imul, 1) := by decide +kernel
theorem dX5_walk_42 : decode cX5_walk 42 = .ok (.iadd, 1) := by decide +kernel
theorem dX5_walk_43 : decode cX5_walk 43 = .ok (.istore 10, 2) := by decide +kernel
theorem dX5_walk_45 : decode cX5_walk 45 = .ok (.iconst 0, 1) := by decide +kernel
theorem dX5_walk_46 : decode cX5_walk 46 = .ok (.istore 11, 2) := by decide +kernel
theorem dX5_walk_48 : decode cX5_walk 48 = .ok (.iload 11, 2) := by decide +kernel
theorem dX5_walk_50 : decode cX5_walk 50 = .ok (.aload_n 0, 1) := by decide +kernel
theorem dX5_walk_51 : decode cX5_walk 51 = .ok (.getfield 30, 3) := by decide +kernel
theorem dX5_walk_54 : decode cX5_walk 54 = .ok (.if_icmp .ge 78, 3) := by decide +kernel
theorem dX5_walk_57 : decode cX5_walk 57 = .ok (.aload_n 0, 1) := by decide +kernel
theorem dX5_walk_58 : decode cX5_walk 58 = .ok (.getfield 18, 3) := by decide +kernel
theorem dX5_walk_61 : decode cX5_walk 61 = .ok (.iload 11, 2) := by decide +kernel
theorem dX5_walk_63 : decode cX5_walk 63 = .ok (.iaload, 1) := by decide +kernel
theorem dX5_walk_64 : decode cX5_walk 64 = .ok (.iload 10, 2) := by decide +kernel
theorem dX5_walk_66 : decode cX5_walk 66 = .ok (.if_icmp .ne 19, 3) := by decide +kernel
theorem dX5_walk_69 : decode cX5_walk 69 = .ok (.aload_n 0, 1) := by decide +kernel
theorem dX5_walk_70 : decode cX5_walk 70 = .ok (.iload 11, 2) := by decide +kernel
theorem dX5_walk_72 : decode cX5_walk 72 = .ok (.iload_n 3, 1) := by decide +kernel
theorem dX5_walk_73 : decode cX5_walk 73 = .ok (.iload 4, 2) := by decide +kernel
theorem dX5_walk_75 : decode cX5_walk 75 = .ok (.iload 6, 2) := by decide +kernel
theorem dX5_walk_77 : decode cX5_walk 77 = .ok (.aload 5, 2) := by decide +kernel
theorem dX5_walk_79 : decode cX5_walk 79 = .ok (.invokevirtual 99, 3) := by decide +kernel
theorem dX5_walk_82 : decode cX5_walk 82 = .ok (.goto 4, 3) := by decide +kernel
theorem dX5_walk_85 : decode cX5_walk 85 = .ok (.iconst 0, 1) := by decide +kernel
theorem dX5_walk_86 : decode cX5_walk 86 = .ok (.istore 12, 2) := by decide +kernel
theorem dX5_walk_88 : decode cX5_walk 88 = .ok (.iload 12, 2) := by decide +kernel
theorem dX5_walk_90 : decode cX5_walk 90 = .ok (.ifCond .le 36, 3) := by decide +kernel
theorem dX5_walk_93 : decode cX5_walk 93 = .ok (.aload_n 0, 1) := by decide +kernel
theorem dX5_walk_94 : decode cX5_walk 94 = .ok (.getfield 24, 3) := by decide +kernel
theorem dX5_walk_97 : decode cX5_walk 97 = .ok (.iload 11, 2) := by decide +kernel
theorem dX5_walk_99 : decode cX5_walk 99 = .ok (.dup2, 1) := by decide +kernel
theorem dX5_walk_100 : decode cX5_walk 100 = .ok (.iaload, 1) := by decide +kernel
theorem dX5_walk_101 : decode cX5_walk 101 = .ok (.iload 12, 2) := by decide +kernel
theorem dX5_walk_103 : decode cX5_walk 103 = .ok (.iadd, 1) := by decide +kernel
theorem dX5_walk_104 : decode cX5_walk 104 = .ok (.iastore, 1) := by decide +kernel
theorem dX5_walk_105 : decode cX5_walk 105 = .ok (.aload_n 0, 1) := by decide +kernel
theorem dX5_walk_106 : decode cX5_walk 106 = .ok (.getfield 27, 3) := by decide +kernel
theorem dX5_walk_109 : decode cX5_walk 109 = .ok (.iload 11, 2) := by decide +kernel
theorem dX5_walk_111 : decode cX5_walk 111 = .ok (.dup2, 1) := by decide +kernel
theorem dX5_walk_112 : decode cX5_walk 112 = .ok (.iaload, 1) := by decide +kernel
theorem dX5_walk_113 : decode cX5_walk 113 = .ok (.iconst 1, 1) := by decide +kernel
theorem dX5_walk_114 : decode cX5_walk 114 = .ok (.iadd, 1) := by decide +kernel
theorem dX5_walk_115 : decode cX5_walk 115 = .ok (.iastore, 1) := by decide +kernel
theorem dX5_walk_116 : decode cX5_walk 116 = .ok (.iload 6, 2) := by decide +kernel
theorem dX5_walk_118 : decode cX5_walk 118 = .ok (.iconst 3, 1) := by decide +kernel
theorem dX5_walk_119 : decode cX5_walk 119 = .ok (.isub, 1) := by decide +kernel
theorem dX5_walk_120 : decode cX5_walk 120 = .ok (.iconst 0, 1) := by decide +kernel
theorem dX5_walk_121 : decode cX5_walk 121 = .ok (.invokestatic 103, 3) := by decide +kernel
theorem dX5_walk_124 : decode cX5_walk 124 = .ok (.istore 6, 2) := by decide +kernel
theorem dX5_walk_126 : decode cX5_walk 126 = .ok (.iinc 11 1, 3) := by decide +kernel
theorem dX5_walk_129 : decode cX5_walk 129 = .ok (.goto (-81), 3) := by decide +kernel
theorem dX5_walk_132 : decode cX5_walk 132 = .ok (.iinc 9 1, 3) := by decide +kernel
theorem dX5_walk_135 : decode cX5_walk 135 = .ok (.goto (-106), 3) := by decide +kernel
theorem dX5_walk_138 : decode cX5_walk 138 = .ok (.return_, 1) := by decide +kernel
theorem dX5_giftTo_0 : decode cX5_giftTo 0 = .ok (.aload_n 0, 1) := by decide +kernel
theorem dX5_giftTo_1 : decode cX5_giftTo 1 = .ok (.getfield 15, 3) := by decide +kernel
theorem dX5_giftTo_4 : decode cX5_giftTo 4 = .ok (.iload_n 1, 1) := by decide +kernel
theorem dX5_giftTo_5 : decode cX5_giftTo 5 = .ok (.iaload, 1) := by decide +kernel
theorem dX5_giftTo_6 : decode cX5_giftTo 6 = .ok (.aload 5, 2) := by decide +kernel
theorem dX5_giftTo_8 : decode cX5_giftTo 8 = .ok (.iload_n 2, 1) := by decide +kernel
theorem dX5_giftTo_9 : decode cX5_giftTo 9 = .ok (.iload 4, 2) := by decide +kernel
theorem dX5_giftTo_11 : decode cX5_giftTo 11 = .ok (.aload_n 0, 1) := by decide +kernel
theorem dX5_giftTo_12 : decode cX5_giftTo 12 = .ok (.getfield 21, 3) := by decide +kernel
theorem dX5_giftTo_15 : decode cX5_giftTo 15 = .ok (.iload_n 1, 1) := by decide +kernel
theorem dX5_giftTo_16 : decode cX5_giftTo 16 = .ok (.iaload, 1) := by decide +kernel
theorem dX5_giftTo_17 : decode cX5_giftTo 17 = .ok (.invokevirtual 106, 3) := by decide +kernel
theorem dX5_giftTo_20 : decode cX5_giftTo 20 = .ok (.iload_n 3, 1) := by decide +kernel
theorem dX5_giftTo_21 : decode cX5_giftTo 21 = .ok (.iload 4, 2) := by decide +kernel
theorem dX5_giftTo_23 : decode cX5_giftTo 23 = .ok (.aload_n 0, 1) := by decide +kernel
theorem dX5_giftTo_24 : decode cX5_giftTo 24 = .ok (.getfield 37, 3) := by decide +kernel
theorem dX5_giftTo_27 : decode cX5_giftTo 27 = .ok (.invokestatic 112, 3) := by decide +kernel
theorem dX5_giftTo_30 : decode cX5_giftTo 30 = .ok (.ireturn, 1) := by decide +kernel
theorem dX6_init_0 : decode cX6_init 0 = .ok (.aload_n 0, 1) := by decide +kernel
theorem dX6_init_1 : decode cX6_init 1 = .ok (.invokespecial 3, 3) := by decide +kernel
theorem dX6_init_4 : decode cX6_init 4 = .ok (.aload_n 0, 1) := by decide +kernel
theorem dX6_init_5 : decode cX6_init 5 = .ok (.bipush 96, 2) := by decide +kernel
theorem dX6_init_7 : decode cX6_init 7 = .ok (.newarray .byte, 2) := by decide +kernel
theorem dX6_init_9 : decode cX6_init 9 = .ok (.putfield 9, 3) := by decide +kernel
theorem dX6_init_12 : decode cX6_init 12 = .ok (.aload_n 0, 1) := by decide +kernel
theorem dX6_init_13 : decode cX6_init 13 = .ok (.iconst 0, 1) := by decide +kernel
theorem dX6_init_14 : decode cX6_init 14 = .ok (.putfield 15, 3) := by decide +kernel
theorem dX6_init_17 : decode cX6_init 17 = .ok (.return_, 1) := by decide +kernel
theorem dX6_add_0 : decode cX6_add 0 = .ok (.bipush 24, 2) := by decide +kernel
theorem dX6_add_2 : decode cX6_add 2 = .ok (.istore_n 2, 1) := by decide +kernel
theorem dX6_add_3 : decode cX6_add 3 = .ok (.iload_n 2, 1) := by decide +kernel
theorem dX6_add_4 : decode cX6_add 4 = .ok (.ifCond .lt 41, 3) := by decide +kernel
theorem dX6_add_7 : decode cX6_add 7 = .ok (.aload_n 0, 1) := by decide +kernel
theorem dX6_add_8 : decode cX6_add 8 = .ok (.getfield 15, 3) := by decide +kernel
theorem dX6_add_11 : decode cX6_add 11 = .ok (.bipush 96, 2) := by decide +kernel
theorem dX6_add_13 : decode cX6_add 13 = .ok (.if_icmp .ge 32, 3) := by decide +kernel
theorem dX6_add_16 : decode cX6_add 16 = .ok (.aload_n 0, 1) := by decide +kernel
theorem dX6_add_17 : decode cX6_add 17 = .ok (.getfield 9, 3) := by decide +kernel
theorem dX6_add_20 : decode cX6_add 20 = .ok (.aload_n 0, 1) := by decide +kernel
theorem dX6_add_21 : decode cX6_add 21 = .ok (.getfield 15, 3) := by decide +kernel
theorem dX6_add_24 : decode cX6_add 24 = .ok (.iload_n 1, 1) := by decide +kernel
theorem dX6_add_25 : decode cX6_add 25 = .ok (.iload_n 2, 1) := by decide +kernel
theorem dX6_add_26 : decode cX6_add 26 = .ok (.ishr, 1) := by decide +kernel
theorem dX6_add_27 : decode cX6_add 27 = .ok (.i2b, 1) := by decide +kernel
theorem dX6_add_28 : decode cX6_add 28 = .ok (.bastore, 1) := by decide +kernel
theorem dX6_add_29 : decode cX6_add 29 = .ok (.aload_n 0, 1) := by decide +kernel
theorem dX6_add_30 : decode cX6_add 30 = .ok (.dup, 1) := by decide +kernel
theorem dX6_add_31 : decode cX6_add 31 = .ok (.getfield 15, 3) := by decide +kernel
theorem dX6_add_34 : decode cX6_add 34 = .ok (.iconst 1, 1) := by decide +kernel
theorem dX6_add_35 : decode cX6_add 35 = .ok (.iadd, 1) := by decide +kernel
theorem dX6_add_36 : decode cX6_add 36 = .ok (.putfield 15, 3) := by decide +kernel
theorem dX6_add_39 : decode cX6_add 39 = .ok (.iinc 2 (-8), 3) := by decide +kernel
theorem dX6_add_42 : decode cX6_add 42 = .ok (.goto (-39), 3) := by decide +kernel
theorem dX6_add_45 : decode cX6_add 45 = .ok (.return_, 1) := by decide +kernel
theorem dX7_init_0 : decode cX7_init 0 = .ok (.aload_n 0, 1) := by decide +kernel
theorem dX7_init_1 : decode cX7_init 1 = .ok (.invokespecial 1, 3) := by decide +kernel
theorem dX7_init_4 : decode cX7_init 4 = .ok (.aload_n 0, 1) := by decide +kernel
theorem dX7_init_5 : decode cX7_init 5 = .ok (.iload_n 1, 1) := by decide +kernel
theorem dX7_init_6 : decode cX7_init 6 = .ok (.putfield 7, 3) := by decide +kernel
theorem dX7_init_9 : decode cX7_init 9 = .ok (.aload_n 0, 1) := by decide +kernel
theorem dX7_init_10 : decode cX7_init 10 = .ok (.iload_n 2, 1) := by decide +kernel
theorem dX7_init_11 : decode cX7_init 11 = .ok (.putfield 13, 3) := by decide +kernel
theorem dX7_init_14 : decode cX7_init 14 = .ok (.aload_n 0, 1) := by decide +kernel
theorem dX7_init_15 : decode cX7_init 15 = .ok (.aload_n 3, 1) := by decide +kernel
theorem dX7_init_16 : decode cX7_init 16 = .ok (.putfield 16, 3) := by decide +kernel
theorem dX7_init_19 : decode cX7_init 19 = .ok (.aload_n 0, 1) := by decide +kernel
theorem dX7_init_20 : decode cX7_init 20 = .ok (.iload_n 2, 1) := by decide +kernel
theorem dX7_init_21 : decode cX7_init 21 = .ok (.iconst 1, 1) := by decide +kernel
theorem dX7_init_22 : decode cX7_init 22 = .ok (.invokestatic 20, 3) := by decide +kernel
theorem dX7_init_25 : decode cX7_init 25 = .ok (.newarray .int, 2) := by decide +kernel
theorem dX7_init_27 : decode cX7_init 27 = .ok (.putfield 26, 3) := by decide +kernel
theorem dX7_init_30 : decode cX7_init 30 = .ok (.return_, 1) := by decide +kernel
theorem dX7_gives_0 : decode cX7_gives 0 = .ok (.iconst 0, 1) := by decide +kernel
theorem dX7_gives_1 : decode cX7_gives 1 = .ok (.istore 4, 2) := by decide +kernel
theorem dX7_gives_3 : decode cX7_gives 3 = .ok (.iconst 0, 1) := by decide +kernel
theorem dX7_gives_4 : decode cX7_gives 4 = .ok (.istore 5, 2) := by decide +kernel
theorem dX7_gives_6 : decode cX7_gives 6 = .ok (.iload 5, 2) := by decide +kernel
theorem dX7_gives_8 : decode cX7_gives 8 = .ok (.aload_n 0, 1) := by decide +kernel
theorem dX7_gives_9 : decode cX7_gives 9 = .ok (.getfield 16, 3) := by decide +kernel
theorem dX7_gives_12 : decode cX7_gives 12 = .ok (.arraylength, 1) := by decide +kernel
theorem dX7_gives_13 : decode cX7_gives 13 = .ok (.if_icmp .ge 161, 3) := by decide +kernel
theorem dX7_gives_16 : decode cX7_gives 16 = .ok (.aload_n 0, 1) := by decide +kernel
theorem dX7_gives_17 : decode cX7_gives 17 = .ok (.getfield 16, 3) := by decide +kernel
theorem dX7_gives_20 : decode cX7_gives 20 = .ok (.iload 5, 2) := by decide +kernel
theorem dX7_gives_22 : decode cX7_gives 22 = .ok (.iaload, 1) := by decide +kernel
theorem dX7_gives_23 : decode cX7_gives 23 = .ok (.istore 6, 2) := by decide +kernel
theorem dX7_gives_25 : decode cX7_gives 25 = .ok (.iload 6, 2) := by decide +kernel
theorem dX7_gives_27 : decode cX7_gives 27 = .ok (.bipush (-3), 2) := by decide +kernel
theorem dX7_gives_29 : decode cX7_gives 29 = .ok (.if_icmp .lt 58, 3) := by decide +kernel
theorem dX7_gives_32 : decode cX7_gives 32 = .ok (.iload 4, 2) := by decide +kernel
theorem dX7_gives_34 : decode cX7_gives 34 = .ok (.aload_n 0, 1) := by decide +kernel
theorem dX7_gives_35 : decode cX7_gives 35 = .ok (.getfield 26, 3) := by decide +kernel
theorem dX7_gives_38 : decode cX7_gives 38 = .ok (.arraylength, 1) := by decide +kernel
theorem dX7_gives_39 : decode cX7_gives 39 = .ok (.if_icmp .ge 129, 3) := by decide +kernel
theorem dX7_gives_42 : decode cX7_gives 42 = .ok (.aload_n 0, 1) := by decide +kernel
theorem dX7_gives_43 : decode cX7_gives 43 = .ok (.getfield 26, 3) := by decide +kernel
theorem dX7_gives_46 : decode cX7_gives 46 = .ok (.iload 4, 2) := by decide +kernel
theorem dX7_gives_48 : decode cX7_gives 48 = .ok (.iload 6, 2) := by decide +kernel
theorem dX7_gives_50 : decode cX7_gives 50 = .ok (.ifCond .lt 8, 3) := by decide +kernel
theorem dX7_gives_53 : decode cX7_gives 53 = .ok (.iload 6, 2) := by decide +kernel
theorem dX7_gives_55 : decode cX7_gives 55 = .ok (.goto 25, 3) := by decide +kernel
theorem dX7_gives_58 : decode cX7_gives 58 = .ok (.iload 6, 2) := by decide +kernel
theorem dX7_gives_60 : decode cX7_gives 60 = .ok (.iconst (-1), 1) := by decide +kernel
theorem dX7_gives_61 : decode cX7_gives 61 = .ok (.if_icmp .ne 7, 3) := by decide +kernel
theorem dX7_gives_64 : decode cX7_gives 64 = .ok (.iload_n 1, 1) := by decide +kernel
theorem dX7_gives_65 : decode cX7_gives 65 = .ok (.goto 15, 3) := by decide +kernel
theorem dX7_gives_68 : decode cX7_gives 68 = .ok (.iload 6, 2) := by decide +kernel
theorem dX7_gives_70 : decode cX7_gives 70 = .ok (.bipush (-2), 2) := by decide +kernel
theorem dX7_gives_72 : decode cX7_gives 72 = .ok (.if_icmp .ne 7, 3) := by decide +kernel
theorem dX7_gives_75 : decode cX7_gives 75 = .ok (.iload_n 2, 1) := by decide +kernel
theorem dX7_gives_76 : decode cX7_gives 76 = .ok (.goto 4, 3) := by decide +kernel
theorem dX7_gives_79 : decode cX7_gives 79 = .ok (.iload_n 3, 1) := by decide +kernel
theorem dX7_gives_80 : decode cX7_gives 80 = .ok (.iastore, 1) := by decide +kernel
theorem dX7_gives_81 : decode cX7_gives 81 = .ok (.iinc 4 1, 3) := by decide +kernel
theorem dX7_gives_84 : decode cX7_gives 84 = .ok (.goto 84, 3) := by decide +kernel
theorem dX7_gives_87 : decode cX7_gives 87 = .ok (.iload 6, 2) := by decide +kernel
theorem dX7_gives_89 : decode cX7_gives 89 = .ok (.bipush (-33), 2) := by decide +kernel
theorem dX7_gives_91 : decode cX7_gives 91 = .ok (.if_icmp .ne 37, 3) := by decide +kernel
theorem dX7_gives_94 : decode cX7_gives 94 = .ok (.iload 4, 2) := by decide +kernel
theorem dX7_gives_96 : decode cX7_gives 96 = .ok (.ifCond .le 72, 3) := by decide +kernel
theorem dX7_gives_99 : decode cX7_gives 99 = .ok (.aload_n 0, 1) := by decide +kernel
theorem dX7_gives_100 : decode cX7_gives 100 = .ok (.getfield 26, 3) := by decide +kernel
theorem dX7_gives_103 : decode cX7_gives 103 = .ok (.iload 4, 2) := by decide +kernel
theorem dX7_gives_105 : decode cX7_gives 105 = .ok (.iconst 1, 1) := by decide +kernel
theorem dX7_gives_106 : decode cX7_gives 106 = .ok (.isub, 1) := by decide +kernel
theorem dX7_gives_107 : decode cX7_gives 107 = .ok (.aload_n 0, 1) := by decide +kernel
theorem dX7_gives_108 : decode cX7_gives 108 = .ok (.getfield 26, 3) := by decide +kernel
theorem dX7_gives_111 : decode cX7_gives 111 = .ok (.iload 4, 2) := by decide +kernel
theorem dX7_gives_113 : decode cX7_gives 113 = .ok (.iconst 1, 1) := by decide +kernel
theorem dX7_gives_114 : decode cX7_gives 114 = .ok (.isub, 1) := by decide +kernel
theorem dX7_gives_115 : decode cX7_gives 115 = .ok (.iaload, 1) := by decide +kernel
theorem dX7_gives_116 : decode cX7_gives 116 = .ok (.ifCond .ne 7, 3) := by decide +kernel
theorem dX7_gives_119 : decode cX7_gives 119 = .ok (.iconst 1, 1) := by decide +kernel
theorem dX7_gives_120 : decode cX7_gives 120 = .ok (.goto 4, 3) := by decide +kernel
theorem dX7_gives_123 : decode cX7_gives 123 = .ok (.iconst 0, 1) := by decide +kernel
theorem dX7_gives_124 : decode cX7_gives 124 = .ok (.iastore, 1) := by decide +kernel
theorem dX7_gives_125 : decode cX7_gives 125 = .ok (.goto 43, 3) := by decide +kernel
theorem dX7_gives_128 : decode cX7_gives 128 = .ok (.iload 4, 2) := by decide +kernel
theorem dX7_gives_130 : decode cX7_gives 130 = .ok (.iconst 1, 1) := by decide +kernel
theorem dX7_gives_131 : decode cX7_gives 131 = .ok (.if_icmp .le 37, 3) := by decide +kernel
theorem dX7_gives_134 : decode cX7_gives 134 = .ok (.iinc 4 (-1), 3) := by decide +kernel
theorem dX7_gives_137 : decode cX7_gives 137 = .ok (.aload_n 0, 1) := by decide +kernel
theorem dX7_gives_138 : decode cX7_gives 138 = .ok (.getfield 26, 3) := by decide +kernel
theorem dX7_gives_141 : decode cX7_gives 141 = .ok (.iload 4, 2) := by decide +kernel
theorem dX7_gives_143 : decode cX7_gives 143 = .ok (.iconst 1, 1) := by decide +kernel
theorem dX7_gives_144 : decode cX7_gives 144 = .ok (.isub, 1) := by decide +kernel
theorem dX7_gives_145 : decode cX7_gives 145 = .ok (.iload 6, 2) := by decide +kernel
theorem dX7_gives_147 : decode cX7_gives 147 = .ok (.ineg, 1) := by decide +kernel
theorem dX7_gives_148 : decode cX7_gives 148 = .ok (.aload_n 0, 1) := by decide +kernel
theorem dX7_gives_149 : decode cX7_gives 149 = .ok (.getfield 26, 3) := by decide +kernel
theorem dX7_gives_152 : decode cX7_gives 152 = .ok (.iload 4, 2) := by decide +kernel
theorem dX7_gives_154 : decode cX7_gives 154 = .ok (.iconst 1, 1) := by decide +kernel
theorem dX7_gives_155 : decode cX7_gives 155 = .ok (.isub, 1) := by decide +kernel
theorem dX7_gives_156 : decode cX7_gives 156 = .ok (.iaload, 1) := by decide +kernel
theorem dX7_gives_157 : decode cX7_gives 157 = .ok (.aload_n 0, 1) := by decide +kernel
theorem dX7_gives_158 : decode cX7_gives 158 = .ok (.getfield 26, 3) := by decide +kernel
theorem dX7_gives_161 : decode cX7_gives 161 = .ok (.iload 4, 2) := by decide +kernel
theorem dX7_gives_163 : decode cX7_gives 163 = .ok (.iaload, 1) := by decide +kernel
theorem dX7_gives_164 : decode cX7_gives 164 = .ok (.invokestatic 31, 3) := by decide +kernel
theorem dX7_gives_167 : decode cX7_gives 167 = .ok (.iastore, 1) := by decide +kernel
theorem dX7_gives_168 : decode cX7_gives 168 = .ok (.iinc 5 1, 3) := by decide +kernel
theorem dX7_gives_171 : decode cX7_gives 171 = .ok (.goto (-165), 3) := by decide +kernel
theorem dX7_gives_174 : decode cX7_gives 174 = .ok (.aload_n 0, 1) := by decide +kernel
theorem dX7_gives_175 : decode cX7_gives 175 = .ok (.getfield 26, 3) := by decide +kernel
theorem dX7_gives_178 : decode cX7_gives 178 = .ok (.iconst 0, 1) := by decide +kernel
theorem dX7_gives_179 : decode cX7_gives 179 = .ok (.iaload, 1) := by decide +kernel
theorem dX7_gives_180 : decode cX7_gives 180 = .ok (.ireturn, 1) := by decide +kernel
theorem dX7_joined_0 : decode cX7_joined 0 = .ok (.iload_n 0, 1) := by decide +kernel
theorem dX7_joined_1 : decode cX7_joined 1 = .ok (.lookupswitch 148 #[(38, 89), (42, 144), (43, 136), (45, 140), (60, 103), (61, 114), (62, 125), (124, 75)], 75) := by decide +kernel
theorem dX7_joined_76 : decode cX7_joined 76 = .ok (.iload_n 1, 1) := by decide +kernel
theorem dX7_joined_77 : decode cX7_joined 77 = .ok (.ifCond .ne 7, 3) := by decide +kernel
theorem dX7_joined_80 : decode cX7_joined 80 = .ok (.iload_n 2, 1) := by decide +kernel
theorem dX7_joined_81 : decode cX7_joined 81 = .ok (.ifCond .eq 7, 3) := by decide +kernel
theorem dX7_joined_84 : decode cX7_joined 84 = .ok (.iconst 1, 1) := by decide +kernel
theorem dX7_joined_85 : decode cX7_joined 85 = .ok (.goto 4, 3) := by decide +kernel
theorem dX7_joined_88 : decode cX7_joined 88 = .ok (.iconst 0, 1) := by decide +kernel
theorem dX7_joined_89 : decode cX7_joined 89 = .ok (.ireturn, 1) := by decide +kernel
theorem dX7_joined_90 : decode cX7_joined 90 = .ok (.iload_n 1, 1) := by decide +kernel
theorem dX7_joined_91 : decode cX7_joined 91 = .ok (.ifCond .eq 11, 3) := by decide +kernel
theorem dX7_joined_94 : decode cX7_joined 94 = .ok (.iload_n 2, 1) := by decide +kernel
theorem dX7_joined_95 : decode cX7_joined 95 = .ok (.ifCond .eq 7, 3) := by decide +kernel
theorem dX7_joined_98 : decode cX7_joined 98 = .ok (.iconst 1, 1) := by decide +kernel
theorem dX7_joined_99 : decode cX7_joined 99 = .ok (.goto 4, 3) := by decide +kernel
theorem dX7_joined_102 : decode cX7_joined 102 = .ok (.iconst 0, 1) := by decide +kernel
theorem dX7_joined_103 : decode cX7_joined 103 = .ok (.ireturn, 1) := by decide +kernel
theorem dX7_joined_104 : decode cX7_joined 104 = .ok (.iload_n 1, 1) := by decide +kernel
theorem dX7_joined_105 : decode cX7_joined 105 = .ok (.iload_n 2, 1) := by decide +kernel
theorem dX7_joined_106 : decode cX7_joined 106 = .ok (.if_icmp .ge 7, 3) := by decide +kernel
theorem dX7_joined_109 : decode cX7_joined 109 = .ok (.iconst 1, 1) := by decide +kernel
theorem dX7_joined_110 : decode cX7_joined 110 = .ok (.goto 4, 3) := by decide +kernel
theorem dX7_joined_113 : decode cX7_joined 113 = .ok (.iconst 0, 1) := by decide +kernel
theorem dX7_joined_114 : decode cX7_joined 114 = .ok (.ireturn, 1) := by decide +kernel
theorem dX7_joined_115 : decode cX7_joined 115 = .ok (.iload_n 1, 1) := by decide +kernel
theorem dX7_joined_116 : decode cX7_joined 116 = .ok (.iload_n 2, 1) := by decide +kernel
theorem dX7_joined_117 : decode cX7_joined 117 = .ok (.if_icmp .ne 7, 3) := by decide +kernel
theorem dX7_joined_120 : decode cX7_joined 120 = .ok (.iconst 1, 1) := by decide +kernel
theorem dX7_joined_121 : decode cX7_joined 121 = .ok (.goto 4, 3) := by decide +kernel
theorem dX7_joined_124 : decode cX7_joined 124 = .ok (.iconst 0, 1) := by decide +kernel
