theorem dX4_init_0 : decode cX4_init 0 = .ok (.aload_n 0, 1) := by decide +kernel
theorem dX4_init_1 : decode cX4_init 1 = .ok (.invokespecial 1, 3) := by decide +kernel
theorem dX4_init_4 : decode cX4_init 4 = .ok (.aload_n 0, 1) := by decide +kernel
theorem dX4_init_5 : decode cX4_init 5 = .ok (.iconst 3, 1) := by decide +kernel
theorem dX4_init_6 : decode cX4_init 6 = .ok (.anewarray 9, 3) := by decide +kernel
theorem dX4_init_9 : decode cX4_init 9 = .ok (.putfield 11, 3) := by decide +kernel
theorem dX4_init_12 : decode cX4_init 12 = .ok (.iconst 0, 1) := by decide +kernel
theorem dX4_init_13 : decode cX4_init 13 = .ok (.istore_n 1, 1) := by decide +kernel
theorem dX4_init_14 : decode cX4_init 14 = .ok (.iload_n 1, 1) := by decide +kernel
theorem dX4_init_15 : decode cX4_init 15 = .ok (.iconst 3, 1) := by decide +kernel
theorem dX4_init_16 : decode cX4_init 16 = .ok (.if_icmp .ge 22, 3) := by decide +kernel
theorem dX4_init_19 : decode cX4_init 19 = .ok (.aload_n 0, 1) := by decide +kernel
theorem dX4_init_20 : decode cX4_init 20 = .ok (.getfield 11, 3) := by decide +kernel
theorem dX4_init_23 : decode cX4_init 23 = .ok (.iload_n 1, 1) := by decide +kernel
theorem dX4_init_24 : decode cX4_init 24 = .ok (.new 9, 3) := by decide +kernel
theorem dX4_init_27 : decode cX4_init 27 = .ok (.dup, 1) := by decide +kernel
theorem dX4_init_28 : decode cX4_init 28 = .ok (.invokespecial 15, 3) := by decide +kernel
theorem dX4_init_31 : decode cX4_init 31 = .ok (.aastore, 1) := by decide +kernel
theorem dX4_init_32 : decode cX4_init 32 = .ok (.iinc 1 1, 3) := by decide +kernel
theorem dX4_init_35 : decode cX4_init 35 = .ok (.goto (-21), 3) := by decide +kernel
theorem dX4_init_38 : decode cX4_init 38 = .ok (.aload_n 0, 1) := by decide +kernel
theorem dX4_init_39 : decode cX4_init 39 = .ok (.bipush 9, 2) := by decide +kernel
theorem dX4_init_41 : decode cX4_init 41 = .ok (.anewarray 16, 3) := by decide +kernel
theorem dX4_init_44 : decode cX4_init 44 = .ok (.putfield 18, 3) := by decide +kernel
theorem dX4_init_47 : decode cX4_init 47 = .ok (.iconst 0, 1) := by decide +kernel
theorem dX4_init_48 : decode cX4_init 48 = .ok (.istore_n 1, 1) := by decide +kernel
theorem dX4_init_49 : decode cX4_init 49 = .ok (.iload_n 1, 1) := by decide +kernel
theorem dX4_init_50 : decode cX4_init 50 = .ok (.aload_n 0, 1) := by decide +kernel
theorem dX4_init_51 : decode cX4_init 51 = .ok (.getfield 18, 3) := by decide +kernel
theorem dX4_init_54 : decode cX4_init 54 = .ok (.arraylength, 1) := by decide +kernel
theorem dX4_init_55 : decode cX4_init 55 = .ok (.if_icmp .ge 24, 3) := by decide +kernel
theorem dX4_init_58 : decode cX4_init 58 = .ok (.aload_n 0, 1) := by decide +kernel
theorem dX4_init_59 : decode cX4_init 59 = .ok (.getfield 18, 3) := by decide +kernel
theorem dX4_init_62 : decode cX4_init 62 = .ok (.iload_n 1, 1) := by decide +kernel
theorem dX4_init_63 : decode cX4_init 63 = .ok (.new 16, 3) := by decide +kernel
theorem dX4_init_66 : decode cX4_init 66 = .ok (.dup, 1) := by decide +kernel
theorem dX4_init_67 : decode cX4_init 67 = .ok (.bipush 8, 2) := by decide +kernel
theorem dX4_init_69 : decode cX4_init 69 = .ok (.invokespecial 22, 3) := by decide +kernel
theorem dX4_init_72 : decode cX4_init 72 = .ok (.aastore, 1) := by decide +kernel
theorem dX4_init_73 : decode cX4_init 73 = .ok (.iinc 1 1, 3) := by decide +kernel
theorem dX4_init_76 : decode cX4_init 76 = .ok (.goto (-27), 3) := by decide +kernel
theorem dX4_init_79 : decode cX4_init 79 = .ok (.aload_n 0, 1) := by decide +kernel
theorem dX4_init_80 : decode cX4_init 80 = .ok (.new 16, 3) := by decide +kernel
theorem dX4_init_83 : decode cX4_init 83 = .ok (.dup, 1) := by decide +kernel
theorem dX4_init_84 : decode cX4_init 84 = .ok (.bipush 60, 2) := by decide +kernel
theorem dX4_init_86 : decode cX4_init 86 = .ok (.invokespecial 22, 3) := by decide +kernel
theorem dX4_init_89 : decode cX4_init 89 = .ok (.putfield 25, 3) := by decide +kernel
theorem dX4_init_92 : decode cX4_init 92 = .ok (.return_, 1) := by decide +kernel
theorem dX4_code_0 : decode cX4_code 0 = .ok (.iload_n 1, 1) := by decide +kernel
theorem dX4_code_1 : decode cX4_code 1 = .ok (.invokestatic 29, 3) := by decide +kernel
theorem dX4_code_4 : decode cX4_code 4 = .ok (.ifCond .eq 14, 3) := by decide +kernel
theorem dX4_code_7 : decode cX4_code 7 = .ok (.iload_n 1, 1) := by decide +kernel
theorem dX4_code_8 : decode cX4_code 8 = .ok (.iload_n 2, 1) := by decide +kernel
theorem dX4_code_9 : decode cX4_code 9 = .ok (.iload_n 3, 1) := by decide +kernel
theorem dX4_code_10 : decode cX4_code 10 = .ok (.iload 4, 2) := by decide +kernel
theorem dX4_code_12 : decode cX4_code 12 = .ok (.invokestatic 33, 3) := by decide +kernel
theorem dX4_code_15 : decode cX4_code 15 = .ok (.ifCond .ne 5, 3) := by decide +kernel
theorem dX4_code_18 : decode cX4_code 18 = .ok (.iconst 0, 1) := by decide +kernel
theorem dX4_code_19 : decode cX4_code 19 = .ok (.ireturn, 1) := by decide +kernel
theorem dX4_code_20 : decode cX4_code 20 = .ok (.aload_n 0, 1) := by decide +kernel
theorem dX4_code_21 : decode cX4_code 21 = .ok (.getfield 11, 3) := by decide +kernel
theorem dX4_code_24 : decode cX4_code 24 = .ok (.iload_n 1, 1) := by decide +kernel
theorem dX4_code_25 : decode cX4_code 25 = .ok (.aaload, 1) := by decide +kernel
theorem dX4_code_26 : decode cX4_code 26 = .ok (.astore 5, 2) := by decide +kernel
theorem dX4_code_28 : decode cX4_code 28 = .ok (.aload 5, 2) := by decide +kernel
theorem dX4_code_30 : decode cX4_code 30 = .ok (.getfield 37, 3) := by decide +kernel
theorem dX4_code_33 : decode cX4_code 33 = .ok (.ifCond .ne 14, 3) := by decide +kernel
theorem dX4_code_36 : decode cX4_code 36 = .ok (.aload 5, 2) := by decide +kernel
theorem dX4_code_38 : decode cX4_code 38 = .ok (.getfield 41, 3) := by decide +kernel
theorem dX4_code_41 : decode cX4_code 41 = .ok (.invokevirtual 45, 3) := by decide +kernel
theorem dX4_code_44 : decode cX4_code 44 = .ok (.ifCond .eq 5, 3) := by decide +kernel
theorem dX4_code_47 : decode cX4_code 47 = .ok (.iconst 0, 1) := by decide +kernel
theorem dX4_code_48 : decode cX4_code 48 = .ok (.ireturn, 1) := by decide +kernel
theorem dX4_code_49 : decode cX4_code 49 = .ok (.aload 5, 2) := by decide +kernel
theorem dX4_code_51 : decode cX4_code 51 = .ok (.getfield 41, 3) := by decide +kernel
theorem dX4_code_54 : decode cX4_code 54 = .ok (.iload_n 2, 1) := by decide +kernel
theorem dX4_code_55 : decode cX4_code 55 = .ok (.iload_n 3, 1) := by decide +kernel
theorem dX4_code_56 : decode cX4_code 56 = .ok (.iload 4, 2) := by decide +kernel
theorem dX4_code_58 : decode cX4_code 58 = .ok (.invokevirtual 51, 3) := by decide +kernel
theorem dX4_code_61 : decode cX4_code 61 = .ok (.iconst 1, 1) := by decide +kernel
theorem dX4_code_62 : decode cX4_code 62 = .ok (.ireturn, 1) := by decide +kernel
theorem dX4_isProcess_0 : decode cX4_isProcess 0 = .ok (.iload_n 0, 1) := by decide +kernel
theorem dX4_isProcess_1 : decode cX4_isProcess 1 = .ok (.ifCond .lt 12, 3) := by decide +kernel
theorem dX4_isProcess_4 : decode cX4_isProcess 4 = .ok (.iload_n 0, 1) := by decide +kernel
theorem dX4_isProcess_5 : decode cX4_isProcess 5 = .ok (.iconst 3, 1) := by decide +kernel
theorem dX4_isProcess_6 : decode cX4_isProcess 6 = .ok (.if_icmp .ge 7, 3) := by decide +kernel
theorem dX4_isProcess_9 : decode cX4_isProcess 9 = .ok (.iconst 1, 1) := by decide +kernel
theorem dX4_isProcess_10 : decode cX4_isProcess 10 = .ok (.goto 4, 3) := by decide +kernel
theorem dX4_isProcess_13 : decode cX4_isProcess 13 = .ok (.iconst 0, 1) := by decide +kernel
theorem dX4_isProcess_14 : decode cX4_isProcess 14 = .ok (.ireturn, 1) := by decide +kernel
theorem dX4_isInstruction_0 : decode cX4_isInstruction 0 = .ok (.iload_n 1, 1) := by decide +kernel
theorem dX4_isInstruction_1 : decode cX4_isInstruction 1 = .ok (.tableswitch 109 0 7 #[47, 52, 52, 52, 72, 88, 52, 47], 47) := by decide +kernel
theorem dX4_isInstruction_48 : decode cX4_isInstruction 48 = .ok (.iload_n 2, 1) := by decide +kernel
theorem dX4_isInstruction_49 : decode cX4_isInstruction 49 = .ok (.invokestatic 110, 3) := by decide +kernel
theorem dX4_isInstruction_52 : decode cX4_isInstruction 52 = .ok (.ireturn, 1) := by decide +kernel
theorem dX4_isInstruction_53 : decode cX4_isInstruction 53 = .ok (.iload_n 2, 1) := by decide +kernel
theorem dX4_isInstruction_54 : decode cX4_isInstruction 54 = .ok (.invokestatic 110, 3) := by decide +kernel
theorem dX4_isInstruction_57 : decode cX4_isInstruction 57 = .ok (.ifCond .eq 14, 3) := by decide +kernel
theorem dX4_isInstruction_60 : decode cX4_isInstruction 60 = .ok (.iload_n 3, 1) := by decide +kernel
theorem dX4_isInstruction_61 : decode cX4_isInstruction 61 = .ok (.invokestatic 110, 3) := by decide +kernel
theorem dX4_isInstruction_64 : decode cX4_isInstruction 64 = .ok (.ifCond .eq 7, 3) := by decide +kernel
theorem dX4_isInstruction_67 : decode cX4_isInstruction 67 = .ok (.iconst 1, 1) := by decide +kernel
theorem dX4_isInstruction_68 : decode cX4_isInstruction 68 = .ok (.goto 4, 3) := by decide +kernel
theorem dX4_isInstruction_71 : decode cX4_isInstruction 71 = .ok (.iconst 0, 1) := by decide +kernel
theorem dX4_isInstruction_72 : decode cX4_isInstruction 72 = .ok (.ireturn, 1) := by decide +kernel
theorem dX4_isInstruction_73 : decode cX4_isInstruction 73 = .ok (.iload_n 2, 1) := by decide +kernel
theorem dX4_isInstruction_74 : decode cX4_isInstruction 74 = .ok (.ifCond .lt 13, 3) := by decide +kernel
theorem dX4_isInstruction_77 : decode cX4_isInstruction 77 = .ok (.iload_n 2, 1) := by decide +kernel
theorem dX4_isInstruction_78 : decode cX4_isInstruction 78 = .ok (.bipush 16, 2) := by decide +kernel
theorem dX4_isInstruction_80 : decode cX4_isInstruction 80 = .ok (.if_icmp .ge 7, 3) := by decide +kernel
theorem dX4_isInstruction_83 : decode cX4_isInstruction 83 = .ok (.iconst 1, 1) := by decide +kernel
theorem dX4_isInstruction_84 : decode cX4_isInstruction 84 = .ok (.goto 4, 3) := by decide +kernel
theorem dX4_isInstruction_87 : decode cX4_isInstruction 87 = .ok (.iconst 0, 1) := by decide +kernel
theorem dX4_isInstruction_88 : decode cX4_isInstruction 88 = .ok (.ireturn, 1) := by decide +kernel
theorem dX4_isInstruction_89 : decode cX4_isInstruction 89 = .ok (.iload_n 0, 1) := by decide +kernel
theorem dX4_isInstruction_90 : decode cX4_isInstruction 90 = .ok (.iload_n 2, 1) := by decide +kernel
theorem dX4_isInstruction_91 : decode cX4_isInstruction 91 = .ok (.invokestatic 65, 3) := by decide +kernel
theorem dX4_isInstruction_94 : decode cX4_isInstruction 94 = .ok (.ifCond .eq 14, 3) := by decide +kernel
theorem dX4_isInstruction_97 : decode cX4_isInstruction 97 = .ok (.iload_n 3, 1) := by decide +kernel
theorem dX4_isInstruction_98 : decode cX4_isInstruction 98 = .ok (.invokestatic 110, 3) := by decide +kernel
theorem dX4_isInstruction_101 : decode cX4_isInstruction 101 = .ok (.ifCond .eq 7, 3) := by decide +kernel
theorem dX4_isInstruction_104 : decode cX4_isInstruction 104 = .ok (.iconst 1, 1) := by decide +kernel
theorem dX4_isInstruction_105 : decode cX4_isInstruction 105 = .ok (.goto 4, 3) := by decide +kernel
theorem dX4_isInstruction_108 : decode cX4_isInstruction 108 = .ok (.iconst 0, 1) := by decide +kernel
theorem dX4_isInstruction_109 : decode cX4_isInstruction 109 = .ok (.ireturn, 1) := by decide +kernel
theorem dX4_isInstruction_110 : decode cX4_isInstruction 110 = .ok (.iconst 0, 1) := by decide +kernel
theorem dX4_isInstruction_111 : decode cX4_isInstruction 111 = .ok (.ireturn, 1) := by decide +kernel
theorem dX4_isRegister_0 : decode cX4_isRegister 0 = .ok (.iload_n 0, 1) := by decide +kernel
theorem dX4_isRegister_1 : decode cX4_isRegister 1 = .ok (.ifCond .lt 12, 3) := by decide +kernel
theorem dX4_isRegister_4 : decode cX4_isRegister 4 = .ok (.iload_n 0, 1) := by decide +kernel
theorem dX4_isRegister_5 : decode cX4_isRegister 5 = .ok (.iconst 4, 1) := by decide +kernel
theorem dX4_isRegister_6 : decode cX4_isRegister 6 = .ok (.if_icmp .ge 7, 3) := by decide +kernel
theorem dX4_isRegister_9 : decode cX4_isRegister 9 = .ok (.iconst 1, 1) := by decide +kernel
theorem dX4_isRegister_10 : decode cX4_isRegister 10 = .ok (.goto 4, 3) := by decide +kernel
theorem dX4_isRegister_13 : decode cX4_isRegister 13 = .ok (.iconst 0, 1) := by decide +kernel
theorem dX4_isRegister_14 : decode cX4_isRegister 14 = .ok (.ireturn, 1) := by decide +kernel
theorem dX4_isChannel_0 : decode cX4_isChannel 0 = .ok (.iload_n 0, 1) := by decide +kernel
theorem dX4_isChannel_1 : decode cX4_isChannel 1 = .ok (.invokestatic 29, 3) := by decide +kernel
theorem dX4_isChannel_4 : decode cX4_isChannel 4 = .ok (.ifCond .eq 19, 3) := by decide +kernel
theorem dX4_isChannel_7 : decode cX4_isChannel 7 = .ok (.iload_n 1, 1) := by decide +kernel
theorem dX4_isChannel_8 : decode cX4_isChannel 8 = .ok (.invokestatic 29, 3) := by decide +kernel
theorem dX4_isChannel_11 : decode cX4_isChannel 11 = .ok (.ifCond .eq 12, 3) := by decide +kernel
theorem dX4_isChannel_14 : decode cX4_isChannel 14 = .ok (.iload_n 0, 1) := by decide +kernel
theorem dX4_isChannel_15 : decode cX4_isChannel 15 = .ok (.iload_n 1, 1) := by decide +kernel
theorem dX4_isChannel_16 : decode cX4_isChannel 16 = .ok (.if_icmp .eq 7, 3) := by decide +kernel
theorem dX4_isChannel_19 : decode cX4_isChannel 19 = .ok (.iconst 1, 1) := by decide +kernel
theorem dX4_isChannel_20 : decode cX4_isChannel 20 = .ok (.goto 4, 3) := by decide +kernel
theorem dX4_isChannel_23 : decode cX4_isChannel 23 = .ok (.iconst 0, 1) := by decide +kernel
theorem dX4_isChannel_24 : decode cX4_isChannel 24 = .ok (.ireturn, 1) := by decide +kernel
theorem dX4_input_0 : decode cX4_input 0 = .ok (.iload_n 1, 1) := by decide +kernel
theorem dX4_input_1 : decode cX4_input 1 = .ok (.invokestatic 29, 3) := by decide +kernel
theorem dX4_input_4 : decode cX4_input 4 = .ok (.ifCond .ne 5, 3) := by decide +kernel
theorem dX4_input_7 : decode cX4_input 7 = .ok (.iconst (-1), 1) := by decide +kernel
theorem dX4_input_8 : decode cX4_input 8 = .ok (.ireturn, 1) := by decide +kernel
theorem dX4_input_9 : decode cX4_input 9 = .ok (.aload_n 0, 1) := by decide +kernel
theorem dX4_input_10 : decode cX4_input 10 = .ok (.getfield 11, 3) := by decide +kernel
theorem dX4_input_13 : decode cX4_input 13 = .ok (.iload_n 1, 1) := by decide +kernel
theorem dX4_input_14 : decode cX4_input 14 = .ok (.aaload, 1) := by decide +kernel
theorem dX4_input_15 : decode cX4_input 15 = .ok (.astore_n 3, 1) := by decide +kernel
theorem dX4_input_16 : decode cX4_input 16 = .ok (.aload_n 3, 1) := by decide +kernel
theorem dX4_input_17 : decode cX4_input 17 = .ok (.getfield 55, 3) := by decide +kernel
theorem dX4_input_20 : decode cX4_input 20 = .ok (.ifCond .ne 6, 3) := by decide +kernel
theorem dX4_input_23 : decode cX4_input 23 = .ok (.bipush (-2), 2) := by decide +kernel
theorem dX4_input_25 : decode cX4_input 25 = .ok (.ireturn, 1) := by decide +kernel
theorem dX4_input_26 : decode cX4_input 26 = .ok (.aload_n 3, 1) := by decide +kernel
theorem dX4_input_27 : decode cX4_input 27 = .ok (.getfield 58, 3) := by decide +kernel
theorem dX4_input_30 : decode cX4_input 30 = .ok (.invokevirtual 61, 3) := by decide +kernel
theorem dX4_input_33 : decode cX4_input 33 = .ok (.ifCond .eq 6, 3) := by decide +kernel
theorem dX4_input_36 : decode cX4_input 36 = .ok (.bipush (-4), 2) := by decide +kernel
theorem dX4_input_38 : decode cX4_input 38 = .ok (.ireturn, 1) := by decide +kernel
theorem dX4_input_39 : decode cX4_input 39 = .ok (.aload_n 3, 1) := by decide +kernel
theorem dX4_input_40 : decode cX4_input 40 = .ok (.getfield 58, 3) := by decide +kernel
theorem dX4_input_43 : decode cX4_input 43 = .ok (.iload_n 2, 1) := by decide +kernel
theorem dX4_input_44 : decode cX4_input 44 = .ok (.iconst 3, 1) := by decide +kernel
theorem dX4_input_45 : decode cX4_input 45 = .ok (.invokevirtual 62, 3) := by decide +kernel
theorem dX4_input_48 : decode cX4_input 48 = .ok (.ireturn, 1) := by decide +kernel
theorem dX4_deliver_0 : decode cX4_deliver 0 = .ok (.iload_n 1, 1) := by decide +kernel
theorem dX4_deliver_1 : decode cX4_deliver 1 = .ok (.iload_n 2, 1) := by decide +kernel
theorem dX4_deliver_2 : decode cX4_deliver 2 = .ok (.invokestatic 65, 3) := by decide +kernel
theorem dX4_deliver_5 : decode cX4_deliver 5 = .ok (.ifCond .ne 5, 3) := by decide +kernel
theorem dX4_deliver_8 : decode cX4_deliver 8 = .ok (.iconst (-1), 1) := by decide +kernel
theorem dX4_deliver_9 : decode cX4_deliver 9 = .ok (.ireturn, 1) := by decide +kernel
theorem dX4_deliver_10 : decode cX4_deliver 10 = .ok (.aload_n 0, 1) := by decide +kernel
theorem dX4_deliver_11 : decode cX4_deliver 11 = .ok (.getfield 11, 3) := by decide +kernel
theorem dX4_deliver_14 : decode cX4_deliver 14 = .ok (.iload_n 2, 1) := by decide +kernel
theorem dX4_deliver_15 : decode cX4_deliver 15 = .ok (.aaload, 1) := by decide +kernel
theorem dX4_deliver_16 : decode cX4_deliver 16 = .ok (.astore_n 3, 1) := by decide +kernel
theorem dX4_deliver_17 : decode cX4_deliver 17 = .ok (.aload_n 0, 1) := by decide +kernel
theorem dX4_deliver_18 : decode cX4_deliver 18 = .ok (.iload_n 1, 1) := by decide +kernel
theorem dX4_deliver_19 : decode cX4_deliver 19 = .ok (.iload_n 2, 1) := by decide +kernel
theorem dX4_deliver_20 : decode cX4_deliver 20 = .ok (.invokevirtual 69, 3) := by decide +kernel
theorem dX4_deliver_23 : decode cX4_deliver 23 = .ok (.astore 4, 2) := by decide +kernel
theorem dX4_deliver_25 : decode cX4_deliver 25 = .ok (.aload_n 3, 1) := by decide +kernel
theorem dX4_deliver_26 : decode cX4_deliver 26 = .ok (.getfield 55, 3) := by decide +kernel
theorem dX4_deliver_29 : decode cX4_deliver 29 = .ok (.ifCond .ne 6, 3) := by decide +kernel
theorem dX4_deliver_32 : decode cX4_deliver 32 = .ok (.bipush (-2), 2) := by decide +kernel
theorem dX4_deliver_34 : decode cX4_deliver 34 = .ok (.ireturn, 1) := by decide +kernel
theorem dX4_deliver_35 : decode cX4_deliver 35 = .ok (.aload 4, 2) := by decide +kernel
theorem dX4_deliver_37 : decode cX4_deliver 37 = .ok (.invokevirtual 73, 3) := by decide +kernel
theorem dX4_deliver_40 : decode cX4_deliver 40 = .ok (.ifCond .ne 6, 3) := by decide +kernel
theorem dX4_deliver_43 : decode cX4_deliver 43 = .ok (.bipush (-3), 2) := by decide +kernel
theorem dX4_deliver_45 : decode cX4_deliver 45 = .ok (.ireturn, 1) := by decide +kernel
theorem dX4_deliver_46 : decode cX4_deliver 46 = .ok (.aload_n 3, 1) := by decide +kernel
theorem dX4_deliver_47 : decode cX4_deliver 47 = .ok (.getfield 58, 3) := by decide +kernel
theorem dX4_deliver_50 : decode cX4_deliver 50 = .ok (.invokevirtual 61, 3) := by decide +kernel
theorem dX4_deliver_53 : decode cX4_deliver 53 = .ok (.ifCond .eq 6, 3) := by decide +kernel
theorem dX4_deliver_56 : decode cX4_deliver 56 = .ok (.bipush (-4), 2) := by decide +kernel
theorem dX4_deliver_58 : decode cX4_deliver 58 = .ok (.ireturn, 1) := by decide +kernel
theorem dX4_deliver_59 : decode cX4_deliver 59 = .ok (.aload 4, 2) := by decide +kernel
theorem dX4_deliver_61 : decode cX4_deliver 61 = .ok (.getfield 77, 3) := by decide +kernel
theorem dX4_deliver_64 : decode cX4_deliver 64 = .ok (.iconst 1, 1) := by decide +kernel
theorem dX4_deliver_65 : decode cX4_deliver 65 = .ok (.iadd, 1) := by decide +kernel
theorem dX4_deliver_66 : decode cX4_deliver 66 = .ok (.istore 5, 2) := by decide +kernel
theorem dX4_deliver_68 : decode cX4_deliver 68 = .ok (.aload 4, 2) := by decide +kernel
theorem dX4_deliver_70 : decode cX4_deliver 70 = .ok (.iload 5, 2) := by decide +kernel
theorem dX4_deliver_72 : decode cX4_deliver 72 = .ok (.invokevirtual 81, 3) := by decide +kernel
theorem dX4_deliver_75 : decode cX4_deliver 75 = .ok (.istore 6, 2) := by decide +kernel
theorem dX4_deliver_77 : decode cX4_deliver 77 = .ok (.aload 4, 2) := by decide +kernel
theorem dX4_deliver_79 : decode cX4_deliver 79 = .ok (.iload 5, 2) := by decide +kernel
theorem dX4_deliver_81 : decode cX4_deliver 81 = .ok (.invokevirtual 85, 3) := by decide +kernel
theorem dX4_deliver_84 : decode cX4_deliver 84 = .ok (.pop, 1) := by decide +kernel
theorem dX4_deliver_85 : decode cX4_deliver 85 = .ok (.aload_n 3, 1) := by decide +kernel
theorem dX4_deliver_86 : decode cX4_deliver 86 = .ok (.getfield 58, 3) := by decide +kernel
theorem dX4_deliver_89 : decode cX4_deliver 89 = .ok (.iload 6, 2) := by decide +kernel
theorem dX4_deliver_91 : decode cX4_deliver 91 = .ok (.iload_n 1, 1) := by decide +kernel
theorem dX4_deliver_92 : decode cX4_deliver 92 = .ok (.invokevirtual 62, 3) := by decide +kernel
theorem dX4_deliver_95 : decode cX4_deliver 95 = .ok (.ireturn, 1) := by decide +kernel
theorem dX4_channelBetween_0 : decode cX4_channelBetween 0 = .ok (.aload_n 0, 1) := by decide +kernel
theorem dX4_channelBetween_1 : decode cX4_channelBetween 1 = .ok (.getfield 18, 3) := by decide +kernel
theorem dX4_channelBetween_4 : decode cX4_channelBetween 4 = .ok (.iload_n 1, 1) := by decide +kernel
theorem dX4_channelBetween_5 : decode cX4_channelBetween 5 = .ok (.iconst 3, 1) := by decide +kernel
theorem dX4_channelBetween_6 : decode cX4_channelBetween 6 = .ok (.imul, 1) := by decide +kernel
theorem dX4_channelBetween_7 : decode cX4_channelBetween 7 = .ok (.iload_n 2, 1) := by decide +kernel
theorem dX4_channelBetween_8 : decode cX4_channelBetween 8 = .ok (.iadd, 1) := by decide +kernel
theorem dX4_channelBetween_9 : decode cX4_channelBetween 9 = .ok (.aaload, 1) := by decide +kernel
theorem dX4_channelBetween_10 : decode cX4_channelBetween 10 = .ok (.areturn, 1) := by decide +kernel
theorem dX4_step_0 : decode cX4_step 0 = .ok (.iload_n 1, 1) := by decide +kernel
theorem dX4_step_1 : decode cX4_step 1 = .ok (.invokestatic 29, 3) := by decide +kernel
theorem dX4_step_4 : decode cX4_step 4 = .ok (.ifCond .ne 5, 3) := by decide +kernel
theorem dX4_step_7 : decode cX4_step 7 = .ok (.iconst (-1), 1) := by decide +kernel
theorem dX4_step_8 : decode cX4_step 8 = .ok (.ireturn, 1) := by decide +kernel
theorem dX4_step_9 : decode cX4_step 9 = .ok (.aload_n 0, 1) := by decide +kernel
theorem dX4_step_10 : decode cX4_step 10 = .ok (.getfield 11, 3) := by decide +kernel
theorem dX4_step_13 : decode cX4_step 13 = .ok (.iload_n 1, 1) := by decide +kernel
theorem dX4_step_14 : decode cX4_step 14 = .ok (.aaload, 1) := by decide +kernel
theorem dX4_step_15 : decode cX4_step 15 = .ok (.getfield 55, 3) := by decide +kernel
theorem dX4_step_18 : decode cX4_step 18 = .ok (.ifCond .ne 6, 3) := by decide +kernel
theorem dX4_step_21 : decode cX4_step 21 = .ok (.bipush (-2), 2) := by decide +kernel
theorem dX4_step_23 : decode cX4_step 23 = .ok (.ireturn, 1) := by decide +kernel
theorem dX4_step_24 : decode cX4_step 24 = .ok (.aload_n 0, 1) := by decide +kernel
theorem dX4_step_25 : decode cX4_step 25 = .ok (.iload_n 1, 1) := by decide +kernel
theorem dX4_step_26 : decode cX4_step 26 = .ok (.invokevirtual 88, 3) := by decide +kernel
theorem dX4_step_29 : decode cX4_step 29 = .ok (.ireturn, 1) := by decide +kernel
theorem dX4_doNext_0 : decode cX4_doNext 0 = .ok (.aload_n 0, 1) := by decide +kernel
theorem dX4_doNext_1 : decode cX4_doNext 1 = .ok (.getfield 11, 3) := by decide +kernel
theorem dX4_doNext_4 : decode cX4_doNext 4 = .ok (.iload_n 1, 1) := by decide +kernel
theorem dX4_doNext_5 : decode cX4_doNext 5 = .ok (.aaload, 1) := by decide +kernel
theorem dX4_doNext_6 : decode cX4_doNext 6 = .ok (.astore_n 2, 1) := by decide +kernel
theorem dX4_doNext_7 : decode cX4_doNext 7 = .ok (.aload_n 2, 1) := by decide +kernel
theorem dX4_doNext_8 : decode cX4_doNext 8 = .ok (.getfield 95, 3) := by decide +kernel
theorem dX4_doNext_11 : decode cX4_doNext 11 = .ok (.astore_n 3, 1) := by decide +kernel
theorem dX4_doNext_12 : decode cX4_doNext 12 = .ok (.aload_n 3, 1) := by decide +kernel
theorem dX4_doNext_13 : decode cX4_doNext 13 = .ok (.getfield 117, 3) := by decide +kernel
theorem dX4_doNext_16 : decode cX4_doNext 16 = .ok (.istore 4, 2) := by decide +kernel
theorem dX4_doNext_18 : decode cX4_doNext 18 = .ok (.aload_n 2, 1) := by decide +kernel
theorem dX4_doNext_19 : decode cX4_doNext 19 = .ok (.getfield 41, 3) := by decide +kernel
theorem dX4_doNext_22 : decode cX4_doNext 22 = .ok (.iload 4, 2) := by decide +kernel
theorem dX4_doNext_24 : decode cX4_doNext 24 = .ok (.invokevirtual 141, 3) := by decide +kernel
theorem dX4_doNext_27 : decode cX4_doNext 27 = .ok (.ifCond .ne 5, 3) := by decide +kernel
theorem dX4_doNext_30 : decode cX4_doNext 30 = .ok (.iconst 2, 1) := by decide +kernel
theorem dX4_doNext_31 : decode cX4_doNext 31 = .ok (.ireturn, 1) := by decide +kernel
theorem dX4_doNext_32 : decode cX4_doNext 32 = .ok (.aload_n 2, 1) := by decide +kernel
theorem dX4_doNext_33 : decode cX4_doNext 33 = .ok (.getfield 41, 3) := by decide +kernel
theorem dX4_doNext_36 : decode cX4_doNext 36 = .ok (.getfield 142, 3) := by decide +kernel
theorem dX4_doNext_39 : decode cX4_doNext 39 = .ok (.iload 4, 2) := by decide +kernel
theorem dX4_doNext_41 : decode cX4_doNext 41 = .ok (.iaload, 1) := by decide +kernel
theorem dX4_doNext_42 : decode cX4_doNext 42 = .ok (.istore 5, 2) := by decide +kernel
theorem dX4_doNext_44 : decode cX4_doNext 44 = .ok (.aload_n 2, 1) := by decide +kernel
theorem dX4_doNext_45 : decode cX4_doNext 45 = .ok (.getfield 41, 3) := by decide +kernel
theorem dX4_doNext_48 : decode cX4_doNext 48 = .ok (.getfield 145, 3) := by decide +kernel
theorem dX4_doNext_51 : decode cX4_doNext 51 = .ok (.iload 4, 2) := by decide +kernel
theorem dX4_doNext_53 : decode cX4_doNext 53 = .ok (.iaload, 1) := by decide +kernel
theorem dX4_doNext_54 : decode cX4_doNext 54 = .ok (.istore 6, 2) := by decide +kernel
theorem dX4_doNext_56 : decode cX4_doNext 56 = .ok (.aload_n 2, 1) := by decide +kernel
theorem dX4_doNext_57 : decode cX4_doNext 57 = .ok (.getfield 41, 3) := by decide +kernel
theorem dX4_doNext_60 : decode cX4_doNext 60 = .ok (.getfield 148, 3) := by decide +kernel
theorem dX4_doNext_63 : decode cX4_doNext 63 = .ok (.iload 4, 2) := by decide +kernel
theorem dX4_doNext_65 : decode cX4_doNext 65 = .ok (.iaload, 1) := by decide +kernel
theorem dX4_doNext_66 : decode cX4_doNext 66 = .ok (.istore 7, 2) := by decide +kernel
theorem dX4_doNext_68 : decode cX4_doNext 68 = .ok (.aload_n 3, 1) := by decide +kernel
theorem dX4_doNext_69 : decode cX4_doNext 69 = .ok (.iload 5, 2) := by decide +kernel
theorem dX4_doNext_71 : decode cX4_doNext 71 = .ok (.iload 6, 2) := by decide +kernel
theorem dX4_doNext_73 : decode cX4_doNext 73 = .ok (.iload 7, 2) := by decide +kernel
theorem dX4_doNext_75 : decode cX4_doNext 75 = .ok (.invokestatic 151, 3) := by decide +kernel
theorem dX4_doNext_78 : decode cX4_doNext 78 = .ok (.istore 8, 2) := by decide +kernel
theorem dX4_doNext_80 : decode cX4_doNext 80 = .ok (.aload_n 0, 1) := by decide +kernel
theorem dX4_doNext_81 : decode cX4_doNext 81 = .ok (.iload_n 1, 1) := by decide +kernel
theorem dX4_doNext_82 : decode cX4_doNext 82 = .ok (.iload 5, 2) := by decide +kernel
theorem dX4_doNext_84 : decode cX4_doNext 84 = .ok (.iload 6, 2) := by decide +kernel
theorem dX4_doNext_86 : decode cX4_doNext 86 = .ok (.iload 7, 2) := by decide +kernel
theorem dX4_doNext_88 : decode cX4_doNext 88 = .ok (.invokevirtual 155, 3) := by decide +kernel
theorem dX4_doNext_91 : decode cX4_doNext 91 = .ok (.ifCond .ne 5, 3) := by decide +kernel
theorem dX4_doNext_94 : decode cX4_doNext 94 = .ok (.iconst 0, 1) := by decide +kernel
theorem dX4_doNext_95 : decode cX4_doNext 95 = .ok (.ireturn, 1) := by decide +kernel
theorem dX4_doNext_96 : decode cX4_doNext 96 = .ok (.aload_n 3, 1) := by decide +kernel
theorem dX4_doNext_97 : decode cX4_doNext 97 = .ok (.iload 8, 2) := by decide +kernel
theorem dX4_doNext_99 : decode cX4_doNext 99 = .ok (.putfield 117, 3) := by decide +kernel
theorem dX4_doNext_102 : decode cX4_doNext 102 = .ok (.aload_n 3, 1) := by decide +kernel
theorem dX4_doNext_103 : decode cX4_doNext 103 = .ok (.dup, 1) := by decide +kernel
theorem dX4_doNext_104 : decode cX4_doNext 104 = .ok (.getfield 120, 3) := by decide +kernel
theorem dX4_doNext_107 : decode cX4_doNext 107 = .ok (.iconst 1, 1) := by decide +kernel
theorem dX4_doNext_108 : decode cX4_doNext 108 = .ok (.iadd, 1) := by decide +kernel
theorem dX4_doNext_109 : decode cX4_doNext 109 = .ok (.putfield 120, 3) := by decide +kernel
theorem dX4_doNext_112 : decode cX4_doNext 112 = .ok (.aload_n 2, 1) := by decide +kernel
theorem dX4_doNext_113 : decode cX4_doNext 113 = .ok (.iconst 1, 1) := by decide +kernel
theorem dX4_doNext_114 : decode cX4_doNext 114 = .ok (.putfield 37, 3) := by decide +kernel
theorem dX4_doNext_117 : decode cX4_doNext 117 = .ok (.iconst 1, 1) := by decide +kernel
theorem dX4_doNext_118 : decode cX4_doNext 118 = .ok (.ireturn, 1) := by decide +kernel
theorem dX4_placeAfter_0 : decode cX4_placeAfter 0 = .ok (.iload_n 1, 1) := by decide +kernel
theorem dX4_placeAfter_1 : decode cX4_placeAfter 1 = .ok (.iconst 4, 1) := by decide +kernel
theorem dX4_placeAfter_2 : decode cX4_placeAfter 2 = .ok (.if_icmp .ne 5, 3) := by decide +kernel
theorem dX4_placeAfter_5 : decode cX4_placeAfter 5 = .ok (.iload_n 2, 1) := by decide +kernel
theorem dX4_placeAfter_6 : decode cX4_placeAfter 6 = .ok (.ireturn, 1) := by decide +kernel
theorem dX4_placeAfter_7 : decode cX4_placeAfter 7 = .ok (.iload_n 1, 1) := by decide +kernel
theorem dX4_placeAfter_8 : decode cX4_placeAfter 8 = .ok (.iconst 3, 1) := by decide +kernel
theorem dX4_placeAfter_9 : decode cX4_placeAfter 9 = .ok (.if_icmp .ne 25, 3) := by decide +kernel
theorem dX4_placeAfter_12 : decode cX4_placeAfter 12 = .ok (.aload_n 0, 1) := by decide +kernel
theorem dX4_placeAfter_13 : decode cX4_placeAfter 13 = .ok (.getfield 113, 3) := by decide +kernel
theorem dX4_placeAfter_16 : decode cX4_placeAfter 16 = .ok (.iload_n 2, 1) := by decide +kernel
theorem dX4_placeAfter_17 : decode cX4_placeAfter 17 = .ok (.iaload, 1) := by decide +kernel
theorem dX4_placeAfter_18 : decode cX4_placeAfter 18 = .ok (.aload_n 0, 1) := by decide +kernel
theorem dX4_placeAfter_19 : decode cX4_placeAfter 19 = .ok (.getfield 113, 3) := by decide +kernel
theorem dX4_placeAfter_22 : decode cX4_placeAfter 22 = .ok (.iload_n 3, 1) := by decide +kernel
theorem dX4_placeAfter_23 : decode cX4_placeAfter 23 = .ok (.iaload, 1) := by decide +kernel
theorem dX4_placeAfter_24 : decode cX4_placeAfter 24 = .ok (.if_icmp .ge 10, 3) := by decide +kernel
theorem dX4_placeAfter_27 : decode cX4_placeAfter 27 = .ok (.aload_n 0, 1) := by decide +kernel
theorem dX4_placeAfter_28 : decode cX4_placeAfter 28 = .ok (.getfield 117, 3) := by decide +kernel
theorem dX4_placeAfter_31 : decode cX4_placeAfter 31 = .ok (.iconst 2, 1) := by decide +kernel
theorem dX4_placeAfter_32 : decode cX4_placeAfter 32 = .ok (.iadd, 1) := by decide +kernel
theorem dX4_placeAfter_33 : decode cX4_placeAfter 33 = .ok (.ireturn, 1) := by decide +kernel
theorem dX4_placeAfter_34 : decode cX4_placeAfter 34 = .ok (.aload_n 0, 1) := by decide +kernel
theorem dX4_placeAfter_35 : decode cX4_placeAfter 35 = .ok (.getfield 117, 3) := by decide +kernel
theorem dX4_placeAfter_38 : decode cX4_placeAfter 38 = .ok (.iconst 1, 1) := by decide +kernel
theorem dX4_placeAfter_39 : decode cX4_placeAfter 39 = .ok (.iadd, 1) := by decide +kernel
theorem dX4_placeAfter_40 : decode cX4_placeAfter 40 = .ok (.ireturn, 1) := by decide +kernel
theorem dX4_perform_0 : decode cX4_perform 0 = .ok (.aload_n 0, 1) := by decide +kernel
theorem dX4_perform_1 : decode cX4_perform 1 = .ok (.getfield 11, 3) := by decide +kernel
theorem dX4_perform_4 : decode cX4_perform 4 = .ok (.iload_n 1, 1) := by decide +kernel
theorem dX4_perform_5 : decode cX4_perform 5 = .ok (.aaload, 1) := by decide +kernel
theorem dX4_perform_6 : decode cX4_perform 6 = .ok (.getfield 95, 3) := by decide +kernel
theorem dX4_perform_9 : decode cX4_perform 9 = .ok (.getfield 113, 3) := by decide +kernel
theorem dX4_perform_12 : decode cX4_perform 12 = .ok (.astore 5, 2) := by decide +kernel
theorem dX4_perform_14 : decode cX4_perform 14 = .ok (.iload_n 2, 1) := by decide +kernel
theorem dX4_perform_15 : decode cX4_perform 15 = .ok (.tableswitch 112 0 7 #[45, 53, 67, 112, 112, 81, 93, 102], 45) := by decide +kernel
theorem dX4_perform_60 : decode cX4_perform 60 = .ok (.aload 5, 2) := by decide +kernel
theorem dX4_perform_62 : decode cX4_perform 62 = .ok (.iload_n 3, 1) := by decide +kernel
theorem dX4_perform_63 : decode cX4_perform 63 = .ok (.iload 4, 2) := by decide +kernel
theorem dX4_perform_65 : decode cX4_perform 65 = .ok (.iastore, 1) := by decide +kernel
theorem dX4_perform_66 : decode cX4_perform 66 = .ok (.iconst 1, 1) := by decide +kernel
theorem dX4_perform_67 : decode cX4_perform 67 = .ok (.ireturn, 1) := by decide +kernel
theorem dX4_perform_68 : decode cX4_perform 68 = .ok (.aload 5, 2) := by decide +kernel
theorem dX4_perform_70 : decode cX4_perform 70 = .ok (.iload_n 3, 1) := by decide +kernel
theorem dX4_perform_71 : decode cX4_perform 71 = .ok (.dup2, 1) := by decide +kernel
theorem dX4_perform_72 : decode cX4_perform 72 = .ok (.iaload, 1) := by decide +kernel
theorem dX4_perform_73 : decode cX4_perform 73 = .ok (.aload 5, 2) := by decide +kernel
theorem dX4_perform_75 : decode cX4_perform 75 = .ok (.iload 4, 2) := by decide +kernel
theorem dX4_perform_77 : decode cX4_perform 77 = .ok (.iaload, 1) := by decide +kernel
theorem dX4_perform_78 : decode cX4_perform 78 = .ok (.iadd, 1) := by decide +kernel
theorem dX4_perform_79 : decode cX4_perform 79 = .ok (.iastore, 1) := by decide +kernel
theorem dX4_perform_80 : decode cX4_perform 80 = .ok (.iconst 1, 1) := by decide +kernel
theorem dX4_perform_81 : decode cX4_perform 81 = .ok (.ireturn, 1) := by decide +kernel
theorem dX4_perform_82 : decode cX4_perform 82 = .ok (.aload 5, 2) := by decide +kernel
theorem dX4_perform_84 : decode cX4_perform 84 = .ok (.iload_n 3, 1) := by decide +kernel
theorem dX4_perform_85 : decode cX4_perform 85 = .ok (.dup2, 1) := by decide +kernel
theorem dX4_perform_86 : decode cX4_perform 86 = .ok (.iaload, 1) := by decide +kernel
theorem dX4_perform_87 : decode cX4_perform 87 = .ok (.aload 5, 2) := by decide +kernel
theorem dX4_perform_89 : decode cX4_perform 89 = .ok (.iload 4, 2) := by decide +kernel
theorem dX4_perform_91 : decode cX4_perform 91 = .ok (.iaload, 1) := by decide +kernel
theorem dX4_perform_92 : decode cX4_perform 92 = .ok (.imul, 1) := by decide +kernel
theorem dX4_perform_93 : decode cX4_perform 93 = .ok (.iastore, 1) := by decide +kernel
theorem dX4_perform_94 : decode cX4_perform 94 = .ok (.iconst 1, 1) := by decide +kernel
theorem dX4_perform_95 : decode cX4_perform 95 = .ok (.ireturn, 1) := by decide +kernel
theorem dX4_perform_96 : decode cX4_perform 96 = .ok (.aload_n 0, 1) := by decide +kernel
theorem dX4_perform_97 : decode cX4_perform 97 = .ok (.iload_n 1, 1) := by decide +kernel
theorem dX4_perform_98 : decode cX4_perform 98 = .ok (.iload_n 3, 1) := by decide +kernel
theorem dX4_perform_99 : decode cX4_perform 99 = .ok (.aload 5, 2) := by decide +kernel
theorem dX4_perform_101 : decode cX4_perform 101 = .ok (.iload 4, 2) := by decide +kernel
theorem dX4_perform_103 : decode cX4_perform 103 = .ok (.iaload, 1) := by decide +kernel
theorem dX4_perform_104 : decode cX4_perform 104 = .ok (.invokevirtual 158, 3) := by decide +kernel
theorem dX4_perform_107 : decode cX4_perform 107 = .ok (.ireturn, 1) := by decide +kernel
theorem dX4_perform_108 : decode cX4_perform 108 = .ok (.aload_n 0, 1) := by decide +kernel
theorem dX4_perform_109 : decode cX4_perform 109 = .ok (.iload_n 1, 1) := by decide +kernel
theorem dX4_perform_110 : decode cX4_perform 110 = .ok (.iload_n 3, 1) := by decide +kernel
theorem dX4_perform_111 : decode cX4_perform 111 = .ok (.iload 4, 2) := by decide +kernel
theorem dX4_perform_113 : decode cX4_perform 113 = .ok (.invokevirtual 162, 3) := by decide +kernel
theorem dX4_perform_116 : decode cX4_perform 116 = .ok (.ireturn, 1) := by decide +kernel
theorem dX4_perform_117 : decode cX4_perform 117 = .ok (.aload_n 0, 1) := by decide +kernel
theorem dX4_perform_118 : decode cX4_perform 118 = .ok (.iload_n 1, 1) := by decide +kernel
theorem dX4_perform_119 : decode cX4_perform 119 = .ok (.aload 5, 2) := by decide +kernel
theorem dX4_perform_121 : decode cX4_perform 121 = .ok (.iload_n 3, 1) := by decide +kernel
theorem dX4_perform_122 : decode cX4_perform 122 = .ok (.iaload, 1) := by decide +kernel
theorem dX4_perform_123 : decode cX4_perform 123 = .ok (.invokevirtual 165, 3) := by decide +kernel
theorem dX4_perform_126 : decode cX4_perform 126 = .ok (.ireturn, 1) := by decide +kernel
theorem dX4_perform_127 : decode cX4_perform 127 = .ok (.iconst 1, 1) := by decide +kernel
theorem dX4_perform_128 : decode cX4_perform 128 = .ok (.ireturn, 1) := by decide +kernel
theorem dX4_trySend_0 : decode cX4_trySend 0 = .ok (.aload_n 0, 1) := by decide +kernel
theorem dX4_trySend_1 : decode cX4_trySend 1 = .ok (.getfield 11, 3) := by decide +kernel
theorem dX4_trySend_4 : decode cX4_trySend 4 = .ok (.iload_n 1, 1) := by decide +kernel
theorem dX4_trySend_5 : decode cX4_trySend 5 = .ok (.aaload, 1) := by decide +kernel
theorem dX4_trySend_6 : decode cX4_trySend 6 = .ok (.astore 4, 2) := by decide +kernel
theorem dX4_trySend_8 : decode cX4_trySend 8 = .ok (.aload_n 0, 1) := by decide +kernel
theorem dX4_trySend_9 : decode cX4_trySend 9 = .ok (.iload_n 1, 1) := by decide +kernel
theorem dX4_trySend_10 : decode cX4_trySend 10 = .ok (.iload_n 2, 1) := by decide +kernel
theorem dX4_trySend_11 : decode cX4_trySend 11 = .ok (.invokevirtual 69, 3) := by decide +kernel
theorem dX4_trySend_14 : decode cX4_trySend 14 = .ok (.astore 5, 2) := by decide +kernel
theorem dX4_trySend_16 : decode cX4_trySend 16 = .ok (.aload 4, 2) := by decide +kernel
theorem dX4_trySend_18 : decode cX4_trySend 18 = .ok (.getfield 95, 3) := by decide +kernel
theorem dX4_trySend_21 : decode cX4_trySend 21 = .ok (.getfield 126, 3) := by decide +kernel
theorem dX4_trySend_24 : decode cX4_trySend 24 = .ok (.iload_n 2, 1) := by decide +kernel
theorem dX4_trySend_25 : decode cX4_trySend 25 = .ok (.iaload, 1) := by decide +kernel
theorem dX4_trySend_26 : decode cX4_trySend 26 = .ok (.aload 5, 2) := by decide +kernel
theorem dX4_trySend_28 : decode cX4_trySend 28 = .ok (.getfield 107, 3) := by decide +kernel
theorem dX4_trySend_31 : decode cX4_trySend 31 = .ok (.if_icmp .ge 17, 3) := by decide +kernel
theorem dX4_trySend_34 : decode cX4_trySend 34 = .ok (.aload 4, 2) := by decide +kernel
theorem dX4_trySend_36 : decode cX4_trySend 36 = .ok (.dup, 1) := by decide +kernel
theorem dX4_trySend_37 : decode cX4_trySend 37 = .ok (.getfield 135, 3) := by decide +kernel
theorem dX4_trySend_40 : decode cX4_trySend 40 = .ok (.iconst 1, 1) := by decide +kernel
theorem dX4_trySend_41 : decode cX4_trySend 41 = .ok (.iadd, 1) := by decide +kernel
theorem dX4_trySend_42 : decode cX4_trySend 42 = .ok (.putfield 135, 3) := by decide +kernel
theorem dX4_trySend_45 : decode cX4_trySend 45 = .ok (.goto 21, 3) := by decide +kernel
theorem dX4_trySend_48 : decode cX4_trySend 48 = .ok (.aload 5, 2) := by decide +kernel
theorem dX4_trySend_50 : decode cX4_trySend 50 = .ok (.invokevirtual 61, 3) := by decide +kernel
theorem dX4_trySend_53 : decode cX4_trySend 53 = .ok (.ifCond .eq 5, 3) := by decide +kernel
theorem dX4_trySend_56 : decode cX4_trySend 56 = .ok (.iconst 0, 1) := by decide +kernel
theorem dX4_trySend_57 : decode cX4_trySend 57 = .ok (.ireturn, 1) := by decide +kernel
theorem dX4_trySend_58 : decode cX4_trySend 58 = .ok (.aload 5, 2) := by decide +kernel
theorem dX4_trySend_60 : decode cX4_trySend 60 = .ok (.iload_n 3, 1) := by decide +kernel
theorem dX4_trySend_61 : decode cX4_trySend 61 = .ok (.iload_n 1, 1) := by decide +kernel
theorem dX4_trySend_62 : decode cX4_trySend 62 = .ok (.invokevirtual 62, 3) := by decide +kernel
theorem dX4_trySend_65 : decode cX4_trySend 65 = .ok (.pop, 1) := by decide +kernel
theorem dX4_trySend_66 : decode cX4_trySend 66 = .ok (.aload 4, 2) := by decide +kernel
theorem dX4_trySend_68 : decode cX4_trySend 68 = .ok (.getfield 95, 3) := by decide +kernel
theorem dX4_trySend_71 : decode cX4_trySend 71 = .ok (.getfield 126, 3) := by decide +kernel
theorem dX4_trySend_74 : decode cX4_trySend 74 = .ok (.iload_n 2, 1) := by decide +kernel
theorem dX4_trySend_75 : decode cX4_trySend 75 = .ok (.dup2, 1) := by decide +kernel
theorem dX4_trySend_76 : decode cX4_trySend 76 = .ok (.iaload, 1) := by decide +kernel
theorem dX4_trySend_77 : decode cX4_trySend 77 = .ok (.iconst 1, 1) := by decide +kernel
theorem dX4_trySend_78 : decode cX4_trySend 78 = .ok (.iadd, 1) := by decide +kernel
theorem dX4_trySend_79 : decode cX4_trySend 79 = .ok (.iastore, 1) := by decide +kernel
theorem dX4_trySend_80 : decode cX4_trySend 80 = .ok (.iconst 1, 1) := by decide +kernel
theorem dX4_trySend_81 : decode cX4_trySend 81 = .ok (.ireturn, 1) := by decide +kernel
theorem dX4_tryReceive_0 : decode cX4_tryReceive 0 = .ok (.aload_n 0, 1) := by decide +kernel
theorem dX4_tryReceive_1 : decode cX4_tryReceive 1 = .ok (.getfield 11, 3) := by decide +kernel
theorem dX4_tryReceive_4 : decode cX4_tryReceive 4 = .ok (.iload_n 1, 1) := by decide +kernel
theorem dX4_tryReceive_5 : decode cX4_tryReceive 5 = .ok (.aaload, 1) := by decide +kernel
theorem dX4_tryReceive_6 : decode cX4_tryReceive 6 = .ok (.astore 4, 2) := by decide +kernel
theorem dX4_tryReceive_8 : decode cX4_tryReceive 8 = .ok (.aload 4, 2) := by decide +kernel
theorem dX4_tryReceive_10 : decode cX4_tryReceive 10 = .ok (.getfield 95, 3) := by decide +kernel
theorem dX4_tryReceive_13 : decode cX4_tryReceive 13 = .ok (.getfield 104, 3) := by decide +kernel
theorem dX4_tryReceive_16 : decode cX4_tryReceive 16 = .ok (.iconst 1, 1) := by decide +kernel
theorem dX4_tryReceive_17 : decode cX4_tryReceive 17 = .ok (.iadd, 1) := by decide +kernel
theorem dX4_tryReceive_18 : decode cX4_tryReceive 18 = .ok (.istore 5, 2) := by decide +kernel
theorem dX4_tryReceive_20 : decode cX4_tryReceive 20 = .ok (.aload 4, 2) := by decide +kernel
theorem dX4_tryReceive_22 : decode cX4_tryReceive 22 = .ok (.getfield 58, 3) := by decide +kernel
theorem dX4_tryReceive_25 : decode cX4_tryReceive 25 = .ok (.iload 5, 2) := by decide +kernel
theorem dX4_tryReceive_27 : decode cX4_tryReceive 27 = .ok (.invokevirtual 129, 3) := by decide +kernel
theorem dX4_tryReceive_30 : decode cX4_tryReceive 30 = .ok (.ifCond .ne 5, 3) := by decide +kernel
theorem dX4_tryReceive_33 : decode cX4_tryReceive 33 = .ok (.iconst 0, 1) := by decide +kernel
theorem dX4_tryReceive_34 : decode cX4_tryReceive 34 = .ok (.ireturn, 1) := by decide +kernel
theorem dX4_tryReceive_35 : decode cX4_tryReceive 35 = .ok (.aload 4, 2) := by decide +kernel
theorem dX4_tryReceive_37 : decode cX4_tryReceive 37 = .ok (.getfield 95, 3) := by decide +kernel
theorem dX4_tryReceive_40 : decode cX4_tryReceive 40 = .ok (.getfield 113, 3) := by decide +kernel
theorem dX4_tryReceive_43 : decode cX4_tryReceive 43 = .ok (.iload_n 3, 1) := by decide +kernel
theorem dX4_tryReceive_44 : decode cX4_tryReceive 44 = .ok (.aload 4, 2) := by decide +kernel
theorem dX4_tryReceive_46 : decode cX4_tryReceive 46 = .ok (.getfield 58, 3) := by decide +kernel
theorem dX4_tryReceive_49 : decode cX4_tryReceive 49 = .ok (.iload 5, 2) := by decide +kernel
theorem dX4_tryReceive_51 : decode cX4_tryReceive 51 = .ok (.invokevirtual 132, 3) := by decide +kernel
theorem dX4_tryReceive_54 : decode cX4_tryReceive 54 = .ok (.iastore, 1) := by decide +kernel
theorem dX4_tryReceive_55 : decode cX4_tryReceive 55 = .ok (.aload 4, 2) := by decide +kernel
theorem dX4_tryReceive_57 : decode cX4_tryReceive 57 = .ok (.getfield 95, 3) := by decide +kernel
theorem dX4_tryReceive_60 : decode cX4_tryReceive 60 = .ok (.getfield 113, 3) := by decide +kernel
theorem dX4_tryReceive_63 : decode cX4_tryReceive 63 = .ok (.iload_n 2, 1) := by decide +kernel
theorem dX4_tryReceive_64 : decode cX4_tryReceive 64 = .ok (.aload 4, 2) := by decide +kernel
theorem dX4_tryReceive_66 : decode cX4_tryReceive 66 = .ok (.getfield 58, 3) := by decide +kernel
theorem dX4_tryReceive_69 : decode cX4_tryReceive 69 = .ok (.iload 5, 2) := by decide +kernel
theorem dX4_tryReceive_71 : decode cX4_tryReceive 71 = .ok (.invokevirtual 81, 3) := by decide +kernel
theorem dX4_tryReceive_74 : decode cX4_tryReceive 74 = .ok (.iastore, 1) := by decide +kernel
theorem dX4_tryReceive_75 : decode cX4_tryReceive 75 = .ok (.aload 4, 2) := by decide +kernel
theorem dX4_tryReceive_77 : decode cX4_tryReceive 77 = .ok (.getfield 95, 3) := by decide +kernel
theorem dX4_tryReceive_80 : decode cX4_tryReceive 80 = .ok (.iload 5, 2) := by decide +kernel
theorem dX4_tryReceive_82 : decode cX4_tryReceive 82 = .ok (.putfield 104, 3) := by decide +kernel
theorem dX4_tryReceive_85 : decode cX4_tryReceive 85 = .ok (.iconst 1, 1) := by decide +kernel
theorem dX4_tryReceive_86 : decode cX4_tryReceive 86 = .ok (.ireturn, 1) := by decide +kernel
theorem dX4_tryPut_0 : decode cX4_tryPut 0 = .ok (.aload_n 0, 1) := by decide +kernel
theorem dX4_tryPut_1 : decode cX4_tryPut 1 = .ok (.getfield 11, 3) := by decide +kernel
theorem dX4_tryPut_4 : decode cX4_tryPut 4 = .ok (.iload_n 1, 1) := by decide +kernel
theorem dX4_tryPut_5 : decode cX4_tryPut 5 = .ok (.aaload, 1) := by decide +kernel
theorem dX4_tryPut_6 : decode cX4_tryPut 6 = .ok (.astore_n 3, 1) := by decide +kernel
theorem dX4_tryPut_7 : decode cX4_tryPut 7 = .ok (.aload_n 3, 1) := by decide +kernel
theorem dX4_tryPut_8 : decode cX4_tryPut 8 = .ok (.getfield 95, 3) := by decide +kernel
theorem dX4_tryPut_11 : decode cX4_tryPut 11 = .ok (.getfield 123, 3) := by decide +kernel
theorem dX4_tryPut_14 : decode cX4_tryPut 14 = .ok (.aload_n 3, 1) := by decide +kernel
theorem dX4_tryPut_15 : decode cX4_tryPut 15 = .ok (.getfield 168, 3) := by decide +kernel
theorem dX4_tryPut_18 : decode cX4_tryPut 18 = .ok (.if_icmp .ge 16, 3) := by decide +kernel
theorem dX4_tryPut_21 : decode cX4_tryPut 21 = .ok (.aload_n 3, 1) := by decide +kernel
theorem dX4_tryPut_22 : decode cX4_tryPut 22 = .ok (.dup, 1) := by decide +kernel
theorem dX4_tryPut_23 : decode cX4_tryPut 23 = .ok (.getfield 135, 3) := by decide +kernel
theorem dX4_tryPut_26 : decode cX4_tryPut 26 = .ok (.iconst 1, 1) := by decide +kernel
theorem dX4_tryPut_27 : decode cX4_tryPut 27 = .ok (.iadd, 1) := by decide +kernel
theorem dX4_tryPut_28 : decode cX4_tryPut 28 = .ok (.putfield 135, 3) := by decide +kernel
theorem dX4_tryPut_31 : decode cX4_tryPut 31 = .ok (.goto 35, 3) := by decide +kernel
theorem dX4_tryPut_34 : decode cX4_tryPut 34 = .ok (.aload_n 0, 1) := by decide +kernel
theorem dX4_tryPut_35 : decode cX4_tryPut 35 = .ok (.getfield 25, 3) := by decide +kernel
theorem dX4_tryPut_38 : decode cX4_tryPut 38 = .ok (.invokevirtual 61, 3) := by decide +kernel
theorem dX4_tryPut_41 : decode cX4_tryPut 41 = .ok (.ifCond .eq 5, 3) := by decide +kernel
theorem dX4_tryPut_44 : decode cX4_tryPut 44 = .ok (.iconst 0, 1) := by decide +kernel
theorem dX4_tryPut_45 : decode cX4_tryPut 45 = .ok (.ireturn, 1) := by decide +kernel
theorem dX4_tryPut_46 : decode cX4_tryPut 46 = .ok (.aload_n 0, 1) := by decide +kernel
theorem dX4_tryPut_47 : decode cX4_tryPut 47 = .ok (.getfield 25, 3) := by decide +kernel
theorem dX4_tryPut_50 : decode cX4_tryPut 50 = .ok (.iload_n 2, 1) := by decide +kernel
theorem dX4_tryPut_51 : decode cX4_tryPut 51 = .ok (.iload_n 1, 1) := by decide +kernel
theorem dX4_tryPut_52 : decode cX4_tryPut 52 = .ok (.invokevirtual 62, 3) := by decide +kernel
theorem dX4_tryPut_55 : decode cX4_tryPut 55 = .ok (.pop, 1) := by decide +kernel
theorem dX4_tryPut_56 : decode cX4_tryPut 56 = .ok (.aload_n 3, 1) := by decide +kernel
theorem dX4_tryPut_57 : decode cX4_tryPut 57 = .ok (.dup, 1) := by decide +kernel
theorem dX4_tryPut_58 : decode cX4_tryPut 58 = .ok (.getfield 168, 3) := by decide +kernel
theorem dX4_tryPut_61 : decode cX4_tryPut 61 = .ok (.iconst 1, 1) := by decide +kernel
theorem dX4_tryPut_62 : decode cX4_tryPut 62 = .ok (.iadd, 1) := by decide +kernel
theorem dX4_tryPut_63 : decode cX4_tryPut 63 = .ok (.putfield 168, 3) := by decide +kernel
theorem dX4_tryPut_66 : decode cX4_tryPut 66 = .ok (.aload_n 3, 1) := by decide +kernel
theorem dX4_tryPut_67 : decode cX4_tryPut 67 = .ok (.getfield 95, 3) := by decide +kernel
theorem dX4_tryPut_70 : decode cX4_tryPut 70 = .ok (.dup, 1) := by decide +kernel
theorem dX4_tryPut_71 : decode cX4_tryPut 71 = .ok (.getfield 123, 3) := by decide +kernel
theorem dX4_tryPut_74 : decode cX4_tryPut 74 = .ok (.iconst 1, 1) := by decide +kernel
theorem dX4_tryPut_75 : decode cX4_tryPut 75 = .ok (.iadd, 1) := by decide +kernel
theorem dX4_tryPut_76 : decode cX4_tryPut 76 = .ok (.putfield 123, 3) := by decide +kernel
theorem dX4_tryPut_79 : decode cX4_tryPut 79 = .ok (.iconst 1, 1) := by decide +kernel
theorem dX4_tryPut_80 : decode cX4_tryPut 80 = .ok (.ireturn, 1) := by decide +kernel
theorem dX4_run_0 : decode cX4_run 0 = .ok (.iload_n 1, 1) := by decide +kernel
theorem dX4_run_1 : decode cX4_run 1 = .ok (.invokestatic 29, 3) := by decide +kernel
theorem dX4_run_4 : decode cX4_run 4 = .ok (.ifCond .eq 14, 3) := by decide +kernel
theorem dX4_run_7 : decode cX4_run 7 = .ok (.iload_n 2, 1) := by decide +kernel
theorem dX4_run_8 : decode cX4_run 8 = .ok (.iconst 1, 1) := by decide +kernel
theorem dX4_run_9 : decode cX4_run 9 = .ok (.if_icmp .lt 9, 3) := by decide +kernel
theorem dX4_run_12 : decode cX4_run 12 = .ok (.iload_n 2, 1) := by decide +kernel
theorem dX4_run_13 : decode cX4_run 13 = .ok (.bipush 100, 2) := by decide +kernel
theorem dX4_run_15 : decode cX4_run 15 = .ok (.if_icmp .le 5, 3) := by decide +kernel
theorem dX4_run_18 : decode cX4_run 18 = .ok (.iconst (-1), 1) := by decide +kernel
theorem dX4_run_19 : decode cX4_run 19 = .ok (.ireturn, 1) := by decide +kernel
theorem dX4_run_20 : decode cX4_run 20 = .ok (.aload_n 0, 1) := by decide +kernel
theorem dX4_run_21 : decode cX4_run 21 = .ok (.getfield 11, 3) := by decide +kernel
theorem dX4_run_24 : decode cX4_run 24 = .ok (.iload_n 1, 1) := by decide +kernel
theorem dX4_run_25 : decode cX4_run 25 = .ok (.aaload, 1) := by decide +kernel
theorem dX4_run_26 : decode cX4_run 26 = .ok (.getfield 55, 3) := by decide +kernel
theorem dX4_run_29 : decode cX4_run 29 = .ok (.ifCond .ne 6, 3) := by decide +kernel
theorem dX4_run_32 : decode cX4_run 32 = .ok (.bipush (-2), 2) := by decide +kernel
theorem dX4_run_34 : decode cX4_run 34 = .ok (.ireturn, 1) := by decide +kernel
theorem dX4_run_35 : decode cX4_run 35 = .ok (.iconst 0, 1) := by decide +kernel
theorem dX4_run_36 : decode cX4_run 36 = .ok (.istore_n 3, 1) := by decide +kernel
theorem dX4_run_37 : decode cX4_run 37 = .ok (.iload_n 3, 1) := by decide +kernel
theorem dX4_run_38 : decode cX4_run 38 = .ok (.iload_n 2, 1) := by decide +kernel
theorem dX4_run_39 : decode cX4_run 39 = .ok (.if_icmp .ge 20, 3) := by decide +kernel
theorem dX4_run_42 : decode cX4_run 42 = .ok (.aload_n 0, 1) := by decide +kernel
theorem dX4_run_43 : decode cX4_run 43 = .ok (.iload_n 1, 1) := by decide +kernel
theorem dX4_run_44 : decode cX4_run 44 = .ok (.invokevirtual 88, 3) := by decide +kernel
theorem dX4_run_47 : decode cX4_run 47 = .ok (.iconst 1, 1) := by decide +kernel
theorem dX4_run_48 : decode cX4_run 48 = .ok (.if_icmp .eq 5, 3) := by decide +kernel
theorem dX4_run_51 : decode cX4_run 51 = .ok (.iload_n 3, 1) := by decide +kernel
theorem dX4_run_52 : decode cX4_run 52 = .ok (.ireturn, 1) := by decide +kernel
theorem dX4_run_53 : decode cX4_run 53 = .ok (.iinc 3 1, 3) := by decide +kernel
theorem dX4_run_56 : decode cX4_run 56 = .ok (.goto (-19), 3) := by decide +kernel
theorem dX4_run_59 : decode cX4_run 59 = .ok (.iload_n 2, 1) := by decide +kernel
theorem dX4_run_60 : decode cX4_run 60 = .ok (.ireturn, 1) := by decide +kernel
theorem dX4_checkpoint_0 : decode cX4_checkpoint 0 = .ok (.iload_n 1, 1) := by decide +kernel
theorem dX4_checkpoint_1 : decode cX4_checkpoint 1 = .ok (.invokestatic 29, 3) := by decide +kernel
theorem dX4_checkpoint_4 : decode cX4_checkpoint 4 = .ok (.ifCond .ne 5, 3) := by decide +kernel
theorem dX4_checkpoint_7 : decode cX4_checkpoint 7 = .ok (.iconst (-1), 1) := by decide +kernel
theorem dX4_checkpoint_8 : decode cX4_checkpoint 8 = .ok (.ireturn, 1) := by decide +kernel
theorem dX4_checkpoint_9 : decode cX4_checkpoint 9 = .ok (.aload_n 0, 1) := by decide +kernel
theorem dX4_checkpoint_10 : decode cX4_checkpoint 10 = .ok (.getfield 11, 3) := by decide +kernel
theorem dX4_checkpoint_13 : decode cX4_checkpoint 13 = .ok (.iload_n 1, 1) := by decide +kernel
theorem dX4_checkpoint_14 : decode cX4_checkpoint 14 = .ok (.aaload, 1) := by decide +kernel
theorem dX4_checkpoint_15 : decode cX4_checkpoint 15 = .ok (.astore_n 2, 1) := by decide +kernel
theorem dX4_checkpoint_16 : decode cX4_checkpoint 16 = .ok (.aload_n 2, 1) := by decide +kernel
theorem dX4_checkpoint_17 : decode cX4_checkpoint 17 = .ok (.getfield 55, 3) := by decide +kernel
theorem dX4_checkpoint_20 : decode cX4_checkpoint 20 = .ok (.ifCond .ne 6, 3) := by decide +kernel
theorem dX4_checkpoint_23 : decode cX4_checkpoint 23 = .ok (.bipush (-2), 2) := by decide +kernel
theorem dX4_checkpoint_25 : decode cX4_checkpoint 25 = .ok (.ireturn, 1) := by decide +kernel
theorem dX4_checkpoint_26 : decode cX4_checkpoint 26 = .ok (.aload_n 2, 1) := by decide +kernel
theorem dX4_checkpoint_27 : decode cX4_checkpoint 27 = .ok (.getfield 91, 3) := by decide +kernel
theorem dX4_checkpoint_30 : decode cX4_checkpoint 30 = .ok (.aload_n 2, 1) := by decide +kernel
theorem dX4_checkpoint_31 : decode cX4_checkpoint 31 = .ok (.getfield 95, 3) := by decide +kernel
theorem dX4_checkpoint_34 : decode cX4_checkpoint 34 = .ok (.invokevirtual 98, 3) := by decide +kernel
theorem dX4_checkpoint_37 : decode cX4_checkpoint 37 = .ok (.aload_n 2, 1) := by decide +kernel
theorem dX4_checkpoint_38 : decode cX4_checkpoint 38 = .ok (.getfield 58, 3) := by decide +kernel
theorem dX4_checkpoint_41 : decode cX4_checkpoint 41 = .ok (.aload_n 2, 1) := by decide +kernel
theorem dX4_checkpoint_42 : decode cX4_checkpoint 42 = .ok (.getfield 91, 3) := by decide +kernel
theorem dX4_checkpoint_45 : decode cX4_checkpoint 45 = .ok (.getfield 104, 3) := by decide +kernel
theorem dX4_checkpoint_48 : decode cX4_checkpoint 48 = .ok (.invokevirtual 85, 3) := by decide +kernel
theorem dX4_checkpoint_51 : decode cX4_checkpoint 51 = .ok (.ireturn, 1) := by decide +kernel
theorem dX4_crash_0 : decode cX4_crash 0 = .ok (.iload_n 1, 1) := by decide +kernel
theorem dX4_crash_1 : decode cX4_crash 1 = .ok (.invokestatic 29, 3) := by decide +kernel
theorem dX4_crash_4 : decode cX4_crash 4 = .ok (.ifCond .eq 15, 3) := by decide +kernel
theorem dX4_crash_7 : decode cX4_crash 7 = .ok (.aload_n 0, 1) := by decide +kernel
theorem dX4_crash_8 : decode cX4_crash 8 = .ok (.getfield 11, 3) := by decide +kernel
theorem dX4_crash_11 : decode cX4_crash 11 = .ok (.iload_n 1, 1) := by decide +kernel
theorem dX4_crash_12 : decode cX4_crash 12 = .ok (.aaload, 1) := by decide +kernel
theorem dX4_crash_13 : decode cX4_crash 13 = .ok (.getfield 55, 3) := by decide +kernel
theorem dX4_crash_16 : decode cX4_crash 16 = .ok (.ifCond .ne 5, 3) := by decide +kernel
theorem dX4_crash_19 : decode cX4_crash 19 = .ok (.iconst 0, 1) := by decide +kernel
theorem dX4_crash_20 : decode cX4_crash 20 = .ok (.ireturn, 1) := by decide +kernel
theorem dX4_crash_21 : decode cX4_crash 21 = .ok (.aload_n 0, 1) := by decide +kernel
theorem dX4_crash_22 : decode cX4_crash 22 = .ok (.getfield 11, 3) := by decide +kernel
theorem dX4_crash_25 : decode cX4_crash 25 = .ok (.iload_n 1, 1) := by decide +kernel
theorem dX4_crash_26 : decode cX4_crash 26 = .ok (.aaload, 1) := by decide +kernel
theorem dX4_crash_27 : decode cX4_crash 27 = .ok (.iconst 0, 1) := by decide +kernel
theorem dX4_crash_28 : decode cX4_crash 28 = .ok (.putfield 55, 3) := by decide +kernel
theorem dX4_crash_31 : decode cX4_crash 31 = .ok (.iconst 1, 1) := by decide +kernel
theorem dX4_crash_32 : decode cX4_crash 32 = .ok (.ireturn, 1) := by decide +kernel
theorem dX4_recover_0 : decode cX4_recover 0 = .ok (.iload_n 1, 1) := by decide +kernel
theorem dX4_recover_1 : decode cX4_recover 1 = .ok (.invokestatic 29, 3) := by decide +kernel
theorem dX4_recover_4 : decode cX4_recover 4 = .ok (.ifCond .ne 5, 3) := by decide +kernel
theorem dX4_recover_7 : decode cX4_recover 7 = .ok (.iconst (-1), 1) := by decide +kernel
theorem dX4_recover_8 : decode cX4_recover 8 = .ok (.ireturn, 1) := by decide +kernel
theorem dX4_recover_9 : decode cX4_recover 9 = .ok (.aload_n 0, 1) := by decide +kernel
theorem dX4_recover_10 : decode cX4_recover 10 = .ok (.getfield 11, 3) := by decide +kernel
theorem dX4_recover_13 : decode cX4_recover 13 = .ok (.iload_n 1, 1) := by decide +kernel
theorem dX4_recover_14 : decode cX4_recover 14 = .ok (.aaload, 1) := by decide +kernel
theorem dX4_recover_15 : decode cX4_recover 15 = .ok (.astore_n 2, 1) := by decide +kernel
theorem dX4_recover_16 : decode cX4_recover 16 = .ok (.aload_n 2, 1) := by decide +kernel
theorem dX4_recover_17 : decode cX4_recover 17 = .ok (.getfield 55, 3) := by decide +kernel
theorem dX4_recover_20 : decode cX4_recover 20 = .ok (.ifCond .eq 6, 3) := by decide +kernel
theorem dX4_recover_23 : decode cX4_recover 23 = .ok (.bipush (-3), 2) := by decide +kernel
theorem dX4_recover_25 : decode cX4_recover 25 = .ok (.ireturn, 1) := by decide +kernel
theorem dX4_recover_26 : decode cX4_recover 26 = .ok (.aload_n 2, 1) := by decide +kernel
theorem dX4_recover_27 : decode cX4_recover 27 = .ok (.getfield 95, 3) := by decide +kernel
theorem dX4_recover_30 : decode cX4_recover 30 = .ok (.aload_n 2, 1) := by decide +kernel
theorem dX4_recover_31 : decode cX4_recover 31 = .ok (.getfield 91, 3) := by decide +kernel
theorem dX4_recover_34 : decode cX4_recover 34 = .ok (.invokevirtual 98, 3) := by decide +kernel
theorem dX4_recover_37 : decode cX4_recover 37 = .ok (.aload_n 2, 1) := by decide +kernel
theorem dX4_recover_38 : decode cX4_recover 38 = .ok (.iconst 1, 1) := by decide +kernel
theorem dX4_recover_39 : decode cX4_recover 39 = .ok (.putfield 55, 3) := by decide +kernel
theorem dX4_recover_42 : decode cX4_recover 42 = .ok (.aload_n 2, 1) := by decide +kernel
theorem dX4_recover_43 : decode cX4_recover 43 = .ok (.getfield 58, 3) := by decide +kernel
theorem dX4_recover_46 : decode cX4_recover 46 = .ok (.getfield 107, 3) := by decide +kernel
theorem dX4_recover_49 : decode cX4_recover 49 = .ok (.aload_n 2, 1) := by decide +kernel
theorem dX4_recover_50 : decode cX4_recover 50 = .ok (.getfield 95, 3) := by decide +kernel
theorem dX4_recover_53 : decode cX4_recover 53 = .ok (.getfield 104, 3) := by decide +kernel
theorem dX4_recover_56 : decode cX4_recover 56 = .ok (.isub, 1) := by decide +kernel
theorem dX4_recover_57 : decode cX4_recover 57 = .ok (.ireturn, 1) := by decide +kernel
theorem dX4_register_0 : decode cX4_register 0 = .ok (.iload_n 1, 1) := by decide +kernel
theorem dX4_register_1 : decode cX4_register 1 = .ok (.invokestatic 29, 3) := by decide +kernel
theorem dX4_register_4 : decode cX4_register 4 = .ok (.ifCond .eq 22, 3) := by decide +kernel
theorem dX4_register_7 : decode cX4_register 7 = .ok (.iload_n 2, 1) := by decide +kernel
theorem dX4_register_8 : decode cX4_register 8 = .ok (.invokestatic 110, 3) := by decide +kernel
theorem dX4_register_11 : decode cX4_register 11 = .ok (.ifCond .eq 15, 3) := by decide +kernel
theorem dX4_register_14 : decode cX4_register 14 = .ok (.aload_n 0, 1) := by decide +kernel
theorem dX4_register_15 : decode cX4_register 15 = .ok (.getfield 11, 3) := by decide +kernel
theorem dX4_register_18 : decode cX4_register 18 = .ok (.iload_n 1, 1) := by decide +kernel
theorem dX4_register_19 : decode cX4_register 19 = .ok (.aaload, 1) := by decide +kernel
theorem dX4_register_20 : decode cX4_register 20 = .ok (.getfield 55, 3) := by decide +kernel
theorem dX4_register_23 : decode cX4_register 23 = .ok (.ifCond .ne 5, 3) := by decide +kernel
theorem dX4_register_26 : decode cX4_register 26 = .ok (.iconst 0, 1) := by decide +kernel
theorem dX4_register_27 : decode cX4_register 27 = .ok (.ireturn, 1) := by decide +kernel
theorem dX4_register_28 : decode cX4_register 28 = .ok (.aload_n 0, 1) := by decide +kernel
theorem dX4_register_29 : decode cX4_register 29 = .ok (.getfield 11, 3) := by decide +kernel
theorem dX4_register_32 : decode cX4_register 32 = .ok (.iload_n 1, 1) := by decide +kernel
theorem dX4_register_33 : decode cX4_register 33 = .ok (.aaload, 1) := by decide +kernel
theorem dX4_register_34 : decode cX4_register 34 = .ok (.getfield 95, 3) := by decide +kernel
theorem dX4_register_37 : decode cX4_register 37 = .ok (.getfield 113, 3) := by decide +kernel
theorem dX4_register_40 : decode cX4_register 40 = .ok (.iload_n 2, 1) := by decide +kernel
theorem dX4_register_41 : decode cX4_register 41 = .ok (.iaload, 1) := by decide +kernel
theorem dX4_register_42 : decode cX4_register 42 = .ok (.ireturn, 1) := by decide +kernel
theorem dX4_state_0 : decode cX4_state 0 = .ok (.iload_n 1, 1) := by decide +kernel
theorem dX4_state_1 : decode cX4_state 1 = .ok (.invokestatic 29, 3) := by decide +kernel
theorem dX4_state_4 : decode cX4_state 4 = .ok (.ifCond .eq 12, 3) := by decide +kernel
theorem dX4_state_7 : decode cX4_state 7 = .ok (.iload_n 2, 1) := by decide +kernel
theorem dX4_state_8 : decode cX4_state 8 = .ok (.ifCond .lt 8, 3) := by decide +kernel
theorem dX4_state_11 : decode cX4_state 11 = .ok (.iload_n 2, 1) := by decide +kernel
theorem dX4_state_12 : decode cX4_state 12 = .ok (.iconst 3, 1) := by decide +kernel
theorem dX4_state_13 : decode cX4_state 13 = .ok (.if_icmp .le 5, 3) := by decide +kernel
theorem dX4_state_16 : decode cX4_state 16 = .ok (.iconst (-1), 1) := by decide +kernel
theorem dX4_state_17 : decode cX4_state 17 = .ok (.ireturn, 1) := by decide +kernel
theorem dX4_state_18 : decode cX4_state 18 = .ok (.aload_n 0, 1) := by decide +kernel
theorem dX4_state_19 : decode cX4_state 19 = .ok (.getfield 11, 3) := by decide +kernel
theorem dX4_state_22 : decode cX4_state 22 = .ok (.iload_n 1, 1) := by decide +kernel
theorem dX4_state_23 : decode cX4_state 23 = .ok (.aaload, 1) := by decide +kernel
theorem dX4_state_24 : decode cX4_state 24 = .ok (.getfield 55, 3) := by decide +kernel
theorem dX4_state_27 : decode cX4_state 27 = .ok (.ifCond .ne 6, 3) := by decide +kernel
theorem dX4_state_30 : decode cX4_state 30 = .ok (.bipush (-2), 2) := by decide +kernel
theorem dX4_state_32 : decode cX4_state 32 = .ok (.ireturn, 1) := by decide +kernel
theorem dX4_state_33 : decode cX4_state 33 = .ok (.aload_n 0, 1) := by decide +kernel
theorem dX4_state_34 : decode cX4_state 34 = .ok (.getfield 11, 3) := by decide +kernel
theorem dX4_state_37 : decode cX4_state 37 = .ok (.iload_n 1, 1) := by decide +kernel
theorem dX4_state_38 : decode cX4_state 38 = .ok (.aaload, 1) := by decide +kernel
theorem dX4_state_39 : decode cX4_state 39 = .ok (.getfield 95, 3) := by decide +kernel
theorem dX4_state_42 : decode cX4_state 42 = .ok (.astore_n 3, 1) := by decide +kernel
theorem dX4_state_43 : decode cX4_state 43 = .ok (.iload_n 2, 1) := by decide +kernel
theorem dX4_state_44 : decode cX4_state 44 = .ok (.tableswitch 43 0 2 #[28, 33, 38], 28) := by decide +kernel
theorem dX4_state_72 : decode cX4_state 72 = .ok (.aload_n 3, 1) := by decide +kernel
theorem dX4_state_73 : decode cX4_state 73 = .ok (.getfield 117, 3) := by decide +kernel
theorem dX4_state_76 : decode cX4_state 76 = .ok (.ireturn, 1) := by decide +kernel
theorem dX4_state_77 : decode cX4_state 77 = .ok (.aload_n 3, 1) := by decide +kernel
theorem dX4_state_78 : decode cX4_state 78 = .ok (.getfield 120, 3) := by decide +kernel
theorem dX4_state_81 : decode cX4_state 81 = .ok (.ireturn, 1) := by decide +kernel
theorem dX4_state_82 : decode cX4_state 82 = .ok (.aload_n 3, 1) := by decide +kernel
theorem dX4_state_83 : decode cX4_state 83 = .ok (.getfield 104, 3) := by decide +kernel
theorem dX4_state_86 : decode cX4_state 86 = .ok (.ireturn, 1) := by decide +kernel
theorem dX4_state_87 : decode cX4_state 87 = .ok (.aload_n 3, 1) := by decide +kernel
theorem dX4_state_88 : decode cX4_state 88 = .ok (.getfield 123, 3) := by decide +kernel
theorem dX4_state_91 : decode cX4_state 91 = .ok (.ireturn, 1) := by decide +kernel
theorem dX4_sent_0 : decode cX4_sent 0 = .ok (.iload_n 1, 1) := by decide +kernel
theorem dX4_sent_1 : decode cX4_sent 1 = .ok (.iload_n 2, 1) := by decide +kernel
theorem dX4_sent_2 : decode cX4_sent 2 = .ok (.invokestatic 65, 3) := by decide +kernel
theorem dX4_sent_5 : decode cX4_sent 5 = .ok (.ifCond .ne 5, 3) := by decide +kernel
theorem dX4_sent_8 : decode cX4_sent 8 = .ok (.iconst (-1), 1) := by decide +kernel
theorem dX4_sent_9 : decode cX4_sent 9 = .ok (.ireturn, 1) := by decide +kernel
theorem dX4_sent_10 : decode cX4_sent 10 = .ok (.aload_n 0, 1) := by decide +kernel
theorem dX4_sent_11 : decode cX4_sent 11 = .ok (.getfield 11, 3) := by decide +kernel
theorem dX4_sent_14 : decode cX4_sent 14 = .ok (.iload_n 1, 1) := by decide +kernel
theorem dX4_sent_15 : decode cX4_sent 15 = .ok (.aaload, 1) := by decide +kernel
theorem dX4_sent_16 : decode cX4_sent 16 = .ok (.getfield 55, 3) := by decide +kernel
theorem dX4_sent_19 : decode cX4_sent 19 = .ok (.ifCond .ne 6, 3) := by decide +kernel
theorem dX4_sent_22 : decode cX4_sent 22 = .ok (.bipush (-2), 2) := by decide +kernel
theorem dX4_sent_24 : decode cX4_sent 24 = .ok (.ireturn, 1) := by decide +kernel
theorem dX4_sent_25 : decode cX4_sent 25 = .ok (.aload_n 0, 1) := by decide +kernel
theorem dX4_sent_26 : decode cX4_sent 26 = .ok (.getfield 11, 3) := by decide +kernel
theorem dX4_sent_29 : decode cX4_sent 29 = .ok (.iload_n 1, 1) := by decide +kernel
theorem dX4_sent_30 : decode cX4_sent 30 = .ok (.aaload, 1) := by decide +kernel
theorem dX4_sent_31 : decode cX4_sent 31 = .ok (.getfield 95, 3) := by decide +kernel
theorem dX4_sent_34 : decode cX4_sent 34 = .ok (.getfield 126, 3) := by decide +kernel
theorem dX4_sent_37 : decode cX4_sent 37 = .ok (.iload_n 2, 1) := by decide +kernel
theorem dX4_sent_38 : decode cX4_sent 38 = .ok (.iaload, 1) := by decide +kernel
theorem dX4_sent_39 : decode cX4_sent 39 = .ok (.ireturn, 1) := by decide +kernel
theorem dX4_kept_0 : decode cX4_kept 0 = .ok (.iload_n 1, 1) := by decide +kernel
theorem dX4_kept_1 : decode cX4_kept 1 = .ok (.invokestatic 29, 3) := by decide +kernel
theorem dX4_kept_4 : decode cX4_kept 4 = .ok (.ifCond .ne 5, 3) := by decide +kernel
theorem dX4_kept_7 : decode cX4_kept 7 = .ok (.iconst (-1), 1) := by decide +kernel
theorem dX4_kept_8 : decode cX4_kept 8 = .ok (.ireturn, 1) := by decide +kernel
theorem dX4_kept_9 : decode cX4_kept 9 = .ok (.aload_n 0, 1) := by decide +kernel
theorem dX4_kept_10 : decode cX4_kept 10 = .ok (.getfield 11, 3) := by decide +kernel
theorem dX4_kept_13 : decode cX4_kept 13 = .ok (.iload_n 1, 1) := by decide +kernel
theorem dX4_kept_14 : decode cX4_kept 14 = .ok (.aaload, 1) := by decide +kernel
theorem dX4_kept_15 : decode cX4_kept 15 = .ok (.getfield 58, 3) := by decide +kernel
theorem dX4_kept_18 : decode cX4_kept 18 = .ok (.invokevirtual 73, 3) := by decide +kernel
theorem dX4_kept_21 : decode cX4_kept 21 = .ok (.ireturn, 1) := by decide +kernel
theorem dX4_source_0 : decode cX4_source 0 = .ok (.iload_n 1, 1) := by decide +kernel
theorem dX4_source_1 : decode cX4_source 1 = .ok (.invokestatic 29, 3) := by decide +kernel
theorem dX4_source_4 : decode cX4_source 4 = .ok (.ifCond .ne 5, 3) := by decide +kernel
theorem dX4_source_7 : decode cX4_source 7 = .ok (.iconst (-1), 1) := by decide +kernel
theorem dX4_source_8 : decode cX4_source 8 = .ok (.ireturn, 1) := by decide +kernel
theorem dX4_source_9 : decode cX4_source 9 = .ok (.aload_n 0, 1) := by decide +kernel
theorem dX4_source_10 : decode cX4_source 10 = .ok (.getfield 11, 3) := by decide +kernel
theorem dX4_source_13 : decode cX4_source 13 = .ok (.iload_n 1, 1) := by decide +kernel
theorem dX4_source_14 : decode cX4_source 14 = .ok (.aaload, 1) := by decide +kernel
theorem dX4_source_15 : decode cX4_source 15 = .ok (.getfield 58, 3) := by decide +kernel
theorem dX4_source_18 : decode cX4_source 18 = .ok (.astore_n 3, 1) := by decide +kernel
theorem dX4_source_19 : decode cX4_source 19 = .ok (.aload_n 3, 1) := by decide +kernel
theorem dX4_source_20 : decode cX4_source 20 = .ok (.iload_n 2, 1) := by decide +kernel
theorem dX4_source_21 : decode cX4_source 21 = .ok (.invokevirtual 129, 3) := by decide +kernel
theorem dX4_source_24 : decode cX4_source 24 = .ok (.ifCond .ne 6, 3) := by decide +kernel
theorem dX4_source_27 : decode cX4_source 27 = .ok (.bipush (-3), 2) := by decide +kernel
theorem dX4_source_29 : decode cX4_source 29 = .ok (.ireturn, 1) := by decide +kernel
theorem dX4_source_30 : decode cX4_source 30 = .ok (.aload_n 3, 1) := by decide +kernel
theorem dX4_source_31 : decode cX4_source 31 = .ok (.iload_n 2, 1) := by decide +kernel
theorem dX4_source_32 : decode cX4_source 32 = .ok (.invokevirtual 132, 3) := by decide +kernel
theorem dX4_source_35 : decode cX4_source 35 = .ok (.ireturn, 1) := by decide +kernel
theorem dX4_waiting_0 : decode cX4_waiting 0 = .ok (.iload_n 1, 1) := by decide +kernel
theorem dX4_waiting_1 : decode cX4_waiting 1 = .ok (.iload_n 2, 1) := by decide +kernel
theorem dX4_waiting_2 : decode cX4_waiting 2 = .ok (.invokestatic 65, 3) := by decide +kernel
theorem dX4_waiting_5 : decode cX4_waiting 5 = .ok (.ifCond .ne 5, 3) := by decide +kernel
theorem dX4_waiting_8 : decode cX4_waiting 8 = .ok (.iconst (-1), 1) := by decide +kernel
theorem dX4_waiting_9 : decode cX4_waiting 9 = .ok (.ireturn, 1) := by decide +kernel
theorem dX4_waiting_10 : decode cX4_waiting 10 = .ok (.aload_n 0, 1) := by decide +kernel
theorem dX4_waiting_11 : decode cX4_waiting 11 = .ok (.iload_n 1, 1) := by decide +kernel
theorem dX4_waiting_12 : decode cX4_waiting 12 = .ok (.iload_n 2, 1) := by decide +kernel
theorem dX4_waiting_13 : decode cX4_waiting 13 = .ok (.invokevirtual 69, 3) := by decide +kernel
theorem dX4_waiting_16 : decode cX4_waiting 16 = .ok (.invokevirtual 73, 3) := by decide +kernel
theorem dX4_waiting_19 : decode cX4_waiting 19 = .ok (.ireturn, 1) := by decide +kernel
theorem dX4_held_0 : decode cX4_held 0 = .ok (.iload_n 1, 1) := by decide +kernel
theorem dX4_held_1 : decode cX4_held 1 = .ok (.invokestatic 29, 3) := by decide +kernel
theorem dX4_held_4 : decode cX4_held 4 = .ok (.ifCond .ne 5, 3) := by decide +kernel
theorem dX4_held_7 : decode cX4_held 7 = .ok (.iconst (-1), 1) := by decide +kernel
theorem dX4_held_8 : decode cX4_held 8 = .ok (.ireturn, 1) := by decide +kernel
theorem dX4_held_9 : decode cX4_held 9 = .ok (.aload_n 0, 1) := by decide +kernel
theorem dX4_held_10 : decode cX4_held 10 = .ok (.getfield 11, 3) := by decide +kernel
theorem dX4_held_13 : decode cX4_held 13 = .ok (.iload_n 1, 1) := by decide +kernel
theorem dX4_held_14 : decode cX4_held 14 = .ok (.aaload, 1) := by decide +kernel
theorem dX4_held_15 : decode cX4_held 15 = .ok (.getfield 135, 3) := by decide +kernel
theorem dX4_held_18 : decode cX4_held 18 = .ok (.ireturn, 1) := by decide +kernel
theorem dX4_outputs_0 : decode cX4_outputs 0 = .ok (.aload_n 0, 1) := by decide +kernel
theorem dX4_outputs_1 : decode cX4_outputs 1 = .ok (.getfield 25, 3) := by decide +kernel
theorem dX4_outputs_4 : decode cX4_outputs 4 = .ok (.invokevirtual 73, 3) := by decide +kernel
theorem dX4_outputs_7 : decode cX4_outputs 7 = .ok (.ireturn, 1) := by decide +kernel
theorem dX4_author_0 : decode cX4_author 0 = .ok (.iload_n 1, 1) := by decide +kernel
theorem dX4_author_1 : decode cX4_author 1 = .ok (.invokestatic 138, 3) := by decide +kernel
theorem dX4_author_4 : decode cX4_author 4 = .ok (.istore_n 2, 1) := by decide +kernel
theorem dX4_author_5 : decode cX4_author 5 = .ok (.aload_n 0, 1) := by decide +kernel
theorem dX4_author_6 : decode cX4_author 6 = .ok (.getfield 25, 3) := by decide +kernel
theorem dX4_author_9 : decode cX4_author 9 = .ok (.iload_n 2, 1) := by decide +kernel
theorem dX4_author_10 : decode cX4_author 10 = .ok (.invokevirtual 129, 3) := by decide +kernel
theorem dX4_author_13 : decode cX4_author 13 = .ok (.ifCond .ne 5, 3) := by decide +kernel
theorem dX4_author_16 : decode cX4_author 16 = .ok (.iconst (-1), 1) := by decide +kernel
theorem dX4_author_17 : decode cX4_author 17 = .ok (.ireturn, 1) := by decide +kernel
theorem dX4_author_18 : decode cX4_author 18 = .ok (.aload_n 0, 1) := by decide +kernel
theorem dX4_author_19 : decode cX4_author 19 = .ok (.getfield 25, 3) := by decide +kernel
theorem dX4_author_22 : decode cX4_author 22 = .ok (.iload_n 2, 1) := by decide +kernel
theorem dX4_author_23 : decode cX4_author 23 = .ok (.invokevirtual 132, 3) := by decide +kernel
theorem dX4_author_26 : decode cX4_author 26 = .ok (.ireturn, 1) := by decide +kernel
theorem dX4_outputNumber_0 : decode cX4_outputNumber 0 = .ok (.iload_n 0, 1) := by decide +kernel
theorem dX4_outputNumber_1 : decode cX4_outputNumber 1 = .ok (.iconst 1, 1) := by decide +kernel
theorem dX4_outputNumber_2 : decode cX4_outputNumber 2 = .ok (.iadd, 1) := by decide +kernel
theorem dX4_outputNumber_3 : decode cX4_outputNumber 3 = .ok (.ireturn, 1) := by decide +kernel
theorem dX4_output_0 : decode cX4_output 0 = .ok (.iload_n 1, 1) := by decide +kernel
theorem dX4_output_1 : decode cX4_output 1 = .ok (.invokestatic 138, 3) := by decide +kernel
theorem dX4_output_4 : decode cX4_output 4 = .ok (.istore_n 2, 1) := by decide +kernel
theorem dX4_output_5 : decode cX4_output 5 = .ok (.aload_n 0, 1) := by decide +kernel
theorem dX4_output_6 : decode cX4_output 6 = .ok (.getfield 25, 3) := by decide +kernel
theorem dX4_output_9 : decode cX4_output 9 = .ok (.iload_n 2, 1) := by decide +kernel
theorem dX4_output_10 : decode cX4_output 10 = .ok (.invokevirtual 129, 3) := by decide +kernel
theorem dX4_output_13 : decode cX4_output 13 = .ok (.ifCond .ne 5, 3) := by decide +kernel
theorem dX4_output_16 : decode cX4_output 16 = .ok (.iconst 0, 1) := by decide +kernel
theorem dX4_output_17 : decode cX4_output 17 = .ok (.ireturn, 1) := by decide +kernel
theorem dX4_output_18 : decode cX4_output 18 = .ok (.aload_n 0, 1) := by decide +kernel
theorem dX4_output_19 : decode cX4_output 19 = .ok (.getfield 25, 3) := by decide +kernel
theorem dX4_output_22 : decode cX4_output 22 = .ok (.iload_n 2, 1) := by decide +kernel
theorem dX4_output_23 : decode cX4_output 23 = .ok (.invokevirtual 81, 3) := by decide +kernel
theorem dX4_output_26 : decode cX4_output 26 = .ok (.ireturn, 1) := by decide +kernel
