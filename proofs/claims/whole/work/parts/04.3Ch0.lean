theorem dCh_init_0 : decode cCh_init 0 = .ok (.aload_n 0, 1) := by decide +kernel
theorem dCh_init_1 : decode cCh_init 1 = .ok (.invokespecial 3, 3) := by decide +kernel
theorem dCh_init_4 : decode cCh_init 4 = .ok (.aload_n 0, 1) := by decide +kernel
theorem dCh_init_5 : decode cCh_init 5 = .ok (.iload_n 1, 1) := by decide +kernel
theorem dCh_init_6 : decode cCh_init 6 = .ok (.putfield 9, 3) := by decide +kernel
theorem dCh_init_9 : decode cCh_init 9 = .ok (.aload_n 0, 1) := by decide +kernel
theorem dCh_init_10 : decode cCh_init 10 = .ok (.new 15, 3) := by decide +kernel
theorem dCh_init_13 : decode cCh_init 13 = .ok (.dup, 1) := by decide +kernel
theorem dCh_init_14 : decode cCh_init 14 = .ok (.iconst 2, 1) := by decide +kernel
theorem dCh_init_15 : decode cCh_init 15 = .ok (.invokespecial 17, 3) := by decide +kernel
theorem dCh_init_18 : decode cCh_init 18 = .ok (.putfield 20, 3) := by decide +kernel
theorem dCh_init_21 : decode cCh_init 21 = .ok (.aload_n 0, 1) := by decide +kernel
theorem dCh_init_22 : decode cCh_init 22 = .ok (.iconst 0, 1) := by decide +kernel
theorem dCh_init_23 : decode cCh_init 23 = .ok (.putfield 24, 3) := by decide +kernel
theorem dCh_init_26 : decode cCh_init 26 = .ok (.return_, 1) := by decide +kernel
theorem dCh_renewAs_0 : decode cCh_renewAs 0 = .ok (.aload_n 0, 1) := by decide +kernel
theorem dCh_renewAs_1 : decode cCh_renewAs 1 = .ok (.iload_n 1, 1) := by decide +kernel
theorem dCh_renewAs_2 : decode cCh_renewAs 2 = .ok (.putfield 24, 3) := by decide +kernel
theorem dCh_renewAs_5 : decode cCh_renewAs 5 = .ok (.aload_n 0, 1) := by decide +kernel
theorem dCh_renewAs_6 : decode cCh_renewAs 6 = .ok (.iconst 0, 1) := by decide +kernel
theorem dCh_renewAs_7 : decode cCh_renewAs 7 = .ok (.putfield 28, 3) := by decide +kernel
theorem dCh_renewAs_10 : decode cCh_renewAs 10 = .ok (.aload_n 0, 1) := by decide +kernel
theorem dCh_renewAs_11 : decode cCh_renewAs 11 = .ok (.iconst 0, 1) := by decide +kernel
theorem dCh_renewAs_12 : decode cCh_renewAs 12 = .ok (.putfield 31, 3) := by decide +kernel
theorem dCh_renewAs_15 : decode cCh_renewAs 15 = .ok (.aload_n 0, 1) := by decide +kernel
theorem dCh_renewAs_16 : decode cCh_renewAs 16 = .ok (.iconst 0, 1) := by decide +kernel
theorem dCh_renewAs_17 : decode cCh_renewAs 17 = .ok (.putfield 34, 3) := by decide +kernel
theorem dCh_renewAs_20 : decode cCh_renewAs 20 = .ok (.aload_n 0, 1) := by decide +kernel
theorem dCh_renewAs_21 : decode cCh_renewAs 21 = .ok (.iconst 0, 1) := by decide +kernel
theorem dCh_renewAs_22 : decode cCh_renewAs 22 = .ok (.putfield 37, 3) := by decide +kernel
theorem dCh_renewAs_25 : decode cCh_renewAs 25 = .ok (.aload_n 0, 1) := by decide +kernel
theorem dCh_renewAs_26 : decode cCh_renewAs 26 = .ok (.getfield 20, 3) := by decide +kernel
theorem dCh_renewAs_29 : decode cCh_renewAs 29 = .ok (.iconst 0, 1) := by decide +kernel
theorem dCh_renewAs_30 : decode cCh_renewAs 30 = .ok (.putfield 40, 3) := by decide +kernel
theorem dCh_renewAs_33 : decode cCh_renewAs 33 = .ok (.return_, 1) := by decide +kernel
theorem dCh_takeData_0 : decode cCh_takeData 0 = .ok (.aload_n 0, 1) := by decide +kernel
theorem dCh_takeData_1 : decode cCh_takeData 1 = .ok (.getfield 20, 3) := by decide +kernel
theorem dCh_takeData_4 : decode cCh_takeData 4 = .ok (.iconst 0, 1) := by decide +kernel
theorem dCh_takeData_5 : decode cCh_takeData 5 = .ok (.invokevirtual 43, 3) := by decide +kernel
theorem dCh_takeData_8 : decode cCh_takeData 8 = .ok (.istore_n 1, 1) := by decide +kernel
theorem dCh_takeData_9 : decode cCh_takeData 9 = .ok (.aload_n 0, 1) := by decide +kernel
theorem dCh_takeData_10 : decode cCh_takeData 10 = .ok (.getfield 20, 3) := by decide +kernel
theorem dCh_takeData_13 : decode cCh_takeData 13 = .ok (.iconst 1, 1) := by decide +kernel
theorem dCh_takeData_14 : decode cCh_takeData 14 = .ok (.invokevirtual 47, 3) := by decide +kernel
theorem dCh_takeData_17 : decode cCh_takeData 17 = .ok (.aload_n 0, 1) := by decide +kernel
theorem dCh_takeData_18 : decode cCh_takeData 18 = .ok (.aload_n 0, 1) := by decide +kernel
theorem dCh_takeData_19 : decode cCh_takeData 19 = .ok (.getfield 37, 3) := by decide +kernel
theorem dCh_takeData_22 : decode cCh_takeData 22 = .ok (.invokestatic 50, 3) := by decide +kernel
theorem dCh_takeData_25 : decode cCh_takeData 25 = .ok (.putfield 37, 3) := by decide +kernel
theorem dCh_takeData_28 : decode cCh_takeData 28 = .ok (.iload_n 1, 1) := by decide +kernel
theorem dCh_takeData_29 : decode cCh_takeData 29 = .ok (.ireturn, 1) := by decide +kernel
theorem dCh_answerTo_0 : decode cCh_answerTo 0 = .ok (.iload_n 1, 1) := by decide +kernel
theorem dCh_answerTo_1 : decode cCh_answerTo 1 = .ok (.invokestatic 53, 3) := by decide +kernel
theorem dCh_answerTo_4 : decode cCh_answerTo 4 = .ok (.tableswitch 90 1 8 #[48, 53, 60, 65, 72, 72, 78, 83], 48) := by decide +kernel
theorem dCh_answerTo_52 : decode cCh_answerTo 52 = .ok (.aload_n 0, 1) := by decide +kernel
theorem dCh_answerTo_53 : decode cCh_answerTo 53 = .ok (.invokevirtual 58, 3) := by decide +kernel
theorem dCh_answerTo_56 : decode cCh_answerTo 56 = .ok (.ireturn, 1) := by decide +kernel
theorem dCh_answerTo_57 : decode cCh_answerTo 57 = .ok (.aload_n 0, 1) := by decide +kernel
theorem dCh_answerTo_58 : decode cCh_answerTo 58 = .ok (.iconst 1, 1) := by decide +kernel
theorem dCh_answerTo_59 : decode cCh_answerTo 59 = .ok (.iconst 3, 1) := by decide +kernel
theorem dCh_answerTo_60 : decode cCh_answerTo 60 = .ok (.invokevirtual 62, 3) := by decide +kernel
theorem dCh_answerTo_63 : decode cCh_answerTo 63 = .ok (.ireturn, 1) := by decide +kernel
theorem dCh_answerTo_64 : decode cCh_answerTo 64 = .ok (.aload_n 0, 1) := by decide +kernel
theorem dCh_answerTo_65 : decode cCh_answerTo 65 = .ok (.invokevirtual 66, 3) := by decide +kernel
theorem dCh_answerTo_68 : decode cCh_answerTo 68 = .ok (.ireturn, 1) := by decide +kernel
theorem dCh_answerTo_69 : decode cCh_answerTo 69 = .ok (.aload_n 0, 1) := by decide +kernel
theorem dCh_answerTo_70 : decode cCh_answerTo 70 = .ok (.iconst 4, 1) := by decide +kernel
theorem dCh_answerTo_71 : decode cCh_answerTo 71 = .ok (.iconst 0, 1) := by decide +kernel
theorem dCh_answerTo_72 : decode cCh_answerTo 72 = .ok (.invokevirtual 62, 3) := by decide +kernel
theorem dCh_answerTo_75 : decode cCh_answerTo 75 = .ok (.ireturn, 1) := by decide +kernel
theorem dCh_answerTo_76 : decode cCh_answerTo 76 = .ok (.aload_n 0, 1) := by decide +kernel
theorem dCh_answerTo_77 : decode cCh_answerTo 77 = .ok (.iload_n 1, 1) := by decide +kernel
theorem dCh_answerTo_78 : decode cCh_answerTo 78 = .ok (.invokevirtual 69, 3) := by decide +kernel
theorem dCh_answerTo_81 : decode cCh_answerTo 81 = .ok (.ireturn, 1) := by decide +kernel
theorem dCh_answerTo_82 : decode cCh_answerTo 82 = .ok (.aload_n 0, 1) := by decide +kernel
theorem dCh_answerTo_83 : decode cCh_answerTo 83 = .ok (.invokevirtual 72, 3) := by decide +kernel
theorem dCh_answerTo_86 : decode cCh_answerTo 86 = .ok (.ireturn, 1) := by decide +kernel
theorem dCh_answerTo_87 : decode cCh_answerTo 87 = .ok (.aload_n 0, 1) := by decide +kernel
theorem dCh_answerTo_88 : decode cCh_answerTo 88 = .ok (.iconst 5, 1) := by decide +kernel
theorem dCh_answerTo_89 : decode cCh_answerTo 89 = .ok (.iconst 3, 1) := by decide +kernel
theorem dCh_answerTo_90 : decode cCh_answerTo 90 = .ok (.invokevirtual 62, 3) := by decide +kernel
theorem dCh_answerTo_93 : decode cCh_answerTo 93 = .ok (.ireturn, 1) := by decide +kernel
theorem dCh_answerTo_94 : decode cCh_answerTo 94 = .ok (.iconst 0, 1) := by decide +kernel
theorem dCh_answerTo_95 : decode cCh_answerTo 95 = .ok (.ireturn, 1) := by decide +kernel
theorem dCh_renewFrom_0 : decode cCh_renewFrom 0 = .ok (.aload_n 0, 1) := by decide +kernel
theorem dCh_renewFrom_1 : decode cCh_renewFrom 1 = .ok (.getfield 24, 3) := by decide +kernel
theorem dCh_renewFrom_4 : decode cCh_renewFrom 4 = .ok (.iload_n 1, 1) := by decide +kernel
theorem dCh_renewFrom_5 : decode cCh_renewFrom 5 = .ok (.if_icmp .ne 8, 3) := by decide +kernel
theorem dCh_renewFrom_8 : decode cCh_renewFrom 8 = .ok (.aload_n 0, 1) := by decide +kernel
theorem dCh_renewFrom_9 : decode cCh_renewFrom 9 = .ok (.iload_n 2, 1) := by decide +kernel
theorem dCh_renewFrom_10 : decode cCh_renewFrom 10 = .ok (.invokevirtual 75, 3) := by decide +kernel
theorem dCh_renewFrom_13 : decode cCh_renewFrom 13 = .ok (.iconst 0, 1) := by decide +kernel
theorem dCh_renewFrom_14 : decode cCh_renewFrom 14 = .ok (.ireturn, 1) := by decide +kernel
theorem dCh_answerToCall_0 : decode cCh_answerToCall 0 = .ok (.aload_n 0, 1) := by decide +kernel
theorem dCh_answerToCall_1 : decode cCh_answerToCall 1 = .ok (.getfield 24, 3) := by decide +kernel
theorem dCh_answerToCall_4 : decode cCh_answerToCall 4 = .ok (.ifCond .eq 18, 3) := by decide +kernel
theorem dCh_answerToCall_7 : decode cCh_answerToCall 7 = .ok (.aload_n 0, 1) := by decide +kernel
theorem dCh_answerToCall_8 : decode cCh_answerToCall 8 = .ok (.getfield 24, 3) := by decide +kernel
theorem dCh_answerToCall_11 : decode cCh_answerToCall 11 = .ok (.iconst 1, 1) := by decide +kernel
theorem dCh_answerToCall_12 : decode cCh_answerToCall 12 = .ok (.if_icmp .ne 15, 3) := by decide +kernel
theorem dCh_answerToCall_15 : decode cCh_answerToCall 15 = .ok (.aload_n 0, 1) := by decide +kernel
theorem dCh_answerToCall_16 : decode cCh_answerToCall 16 = .ok (.getfield 9, 3) := by decide +kernel
theorem dCh_answerToCall_19 : decode cCh_answerToCall 19 = .ok (.ifCond .eq 8, 3) := by decide +kernel
theorem dCh_answerToCall_22 : decode cCh_answerToCall 22 = .ok (.aload_n 0, 1) := by decide +kernel
theorem dCh_answerToCall_23 : decode cCh_answerToCall 23 = .ok (.iconst 2, 1) := by decide +kernel
theorem dCh_answerToCall_24 : decode cCh_answerToCall 24 = .ok (.invokevirtual 75, 3) := by decide +kernel
theorem dCh_answerToCall_27 : decode cCh_answerToCall 27 = .ok (.iconst 0, 1) := by decide +kernel
theorem dCh_answerToCall_28 : decode cCh_answerToCall 28 = .ok (.ireturn, 1) := by decide +kernel
theorem dCh_answerToClear_0 : decode cCh_answerToClear 0 = .ok (.aload_n 0, 1) := by decide +kernel
theorem dCh_answerToClear_1 : decode cCh_answerToClear 1 = .ok (.getfield 24, 3) := by decide +kernel
theorem dCh_answerToClear_4 : decode cCh_answerToClear 4 = .ok (.ifCond .eq 15, 3) := by decide +kernel
theorem dCh_answerToClear_7 : decode cCh_answerToClear 7 = .ok (.aload_n 0, 1) := by decide +kernel
theorem dCh_answerToClear_8 : decode cCh_answerToClear 8 = .ok (.getfield 24, 3) := by decide +kernel
theorem dCh_answerToClear_11 : decode cCh_answerToClear 11 = .ok (.iconst 4, 1) := by decide +kernel
theorem dCh_answerToClear_12 : decode cCh_answerToClear 12 = .ok (.if_icmp .eq 7, 3) := by decide +kernel
theorem dCh_answerToClear_15 : decode cCh_answerToClear 15 = .ok (.iconst 1, 1) := by decide +kernel
theorem dCh_answerToClear_16 : decode cCh_answerToClear 16 = .ok (.goto 4, 3) := by decide +kernel
theorem dCh_answerToClear_19 : decode cCh_answerToClear 19 = .ok (.iconst 0, 1) := by decide +kernel
theorem dCh_answerToClear_20 : decode cCh_answerToClear 20 = .ok (.istore_n 1, 1) := by decide +kernel
theorem dCh_answerToClear_21 : decode cCh_answerToClear 21 = .ok (.aload_n 0, 1) := by decide +kernel
theorem dCh_answerToClear_22 : decode cCh_answerToClear 22 = .ok (.iconst 0, 1) := by decide +kernel
theorem dCh_answerToClear_23 : decode cCh_answerToClear 23 = .ok (.invokevirtual 75, 3) := by decide +kernel
theorem dCh_answerToClear_26 : decode cCh_answerToClear 26 = .ok (.iload_n 1, 1) := by decide +kernel
theorem dCh_answerToClear_27 : decode cCh_answerToClear 27 = .ok (.ifCond .eq 7, 3) := by decide +kernel
theorem dCh_answerToClear_30 : decode cCh_answerToClear 30 = .ok (.iconst 4, 1) := by decide +kernel
theorem dCh_answerToClear_31 : decode cCh_answerToClear 31 = .ok (.goto 4, 3) := by decide +kernel
theorem dCh_answerToClear_34 : decode cCh_answerToClear 34 = .ok (.iconst 0, 1) := by decide +kernel
theorem dCh_answerToClear_35 : decode cCh_answerToClear 35 = .ok (.ireturn, 1) := by decide +kernel
theorem dCh_answerToReset_0 : decode cCh_answerToReset 0 = .ok (.aload_n 0, 1) := by decide +kernel
theorem dCh_answerToReset_1 : decode cCh_answerToReset 1 = .ok (.getfield 24, 3) := by decide +kernel
theorem dCh_answerToReset_4 : decode cCh_answerToReset 4 = .ok (.iconst 3, 1) := by decide +kernel
theorem dCh_answerToReset_5 : decode cCh_answerToReset 5 = .ok (.if_icmp .ne 7, 3) := by decide +kernel
theorem dCh_answerToReset_8 : decode cCh_answerToReset 8 = .ok (.iconst 1, 1) := by decide +kernel
theorem dCh_answerToReset_9 : decode cCh_answerToReset 9 = .ok (.goto 4, 3) := by decide +kernel
theorem dCh_answerToReset_12 : decode cCh_answerToReset 12 = .ok (.iconst 0, 1) := by decide +kernel
theorem dCh_answerToReset_13 : decode cCh_answerToReset 13 = .ok (.istore_n 1, 1) := by decide +kernel
theorem dCh_answerToReset_14 : decode cCh_answerToReset 14 = .ok (.iload_n 1, 1) := by decide +kernel
theorem dCh_answerToReset_15 : decode cCh_answerToReset 15 = .ok (.ifCond .ne 11, 3) := by decide +kernel
theorem dCh_answerToReset_18 : decode cCh_answerToReset 18 = .ok (.aload_n 0, 1) := by decide +kernel
theorem dCh_answerToReset_19 : decode cCh_answerToReset 19 = .ok (.getfield 24, 3) := by decide +kernel
theorem dCh_answerToReset_22 : decode cCh_answerToReset 22 = .ok (.iconst 5, 1) := by decide +kernel
theorem dCh_answerToReset_23 : decode cCh_answerToReset 23 = .ok (.if_icmp .ne 8, 3) := by decide +kernel
theorem dCh_answerToReset_26 : decode cCh_answerToReset 26 = .ok (.aload_n 0, 1) := by decide +kernel
theorem dCh_answerToReset_27 : decode cCh_answerToReset 27 = .ok (.iconst 3, 1) := by decide +kernel
theorem dCh_answerToReset_28 : decode cCh_answerToReset 28 = .ok (.invokevirtual 75, 3) := by decide +kernel
theorem dCh_answerToReset_31 : decode cCh_answerToReset 31 = .ok (.iload_n 1, 1) := by decide +kernel
theorem dCh_answerToReset_32 : decode cCh_answerToReset 32 = .ok (.ifCond .eq 8, 3) := by decide +kernel
theorem dCh_answerToReset_35 : decode cCh_answerToReset 35 = .ok (.bipush 8, 2) := by decide +kernel
theorem dCh_answerToReset_37 : decode cCh_answerToReset 37 = .ok (.goto 4, 3) := by decide +kernel
theorem dCh_answerToReset_40 : decode cCh_answerToReset 40 = .ok (.iconst 0, 1) := by decide +kernel
theorem dCh_answerToReset_41 : decode cCh_answerToReset 41 = .ok (.ireturn, 1) := by decide +kernel
theorem dCh_answerToFlow_0 : decode cCh_answerToFlow 0 = .ok (.aload_n 0, 1) := by decide +kernel
theorem dCh_answerToFlow_1 : decode cCh_answerToFlow 1 = .ok (.getfield 24, 3) := by decide +kernel
theorem dCh_answerToFlow_4 : decode cCh_answerToFlow 4 = .ok (.iconst 3, 1) := by decide +kernel
theorem dCh_answerToFlow_5 : decode cCh_answerToFlow 5 = .ok (.if_icmp .eq 5, 3) := by decide +kernel
theorem dCh_answerToFlow_8 : decode cCh_answerToFlow 8 = .ok (.iconst 0, 1) := by decide +kernel
theorem dCh_answerToFlow_9 : decode cCh_answerToFlow 9 = .ok (.ireturn, 1) := by decide +kernel
theorem dCh_answerToFlow_10 : decode cCh_answerToFlow 10 = .ok (.iload_n 1, 1) := by decide +kernel
theorem dCh_answerToFlow_11 : decode cCh_answerToFlow 11 = .ok (.invokestatic 53, 3) := by decide +kernel
theorem dCh_answerToFlow_14 : decode cCh_answerToFlow 14 = .ok (.iconst 5, 1) := by decide +kernel
theorem dCh_answerToFlow_15 : decode cCh_answerToFlow 15 = .ok (.if_icmp .ne 7, 3) := by decide +kernel
theorem dCh_answerToFlow_18 : decode cCh_answerToFlow 18 = .ok (.iconst 1, 1) := by decide +kernel
theorem dCh_answerToFlow_19 : decode cCh_answerToFlow 19 = .ok (.goto 4, 3) := by decide +kernel
theorem dCh_answerToFlow_22 : decode cCh_answerToFlow 22 = .ok (.iconst 0, 1) := by decide +kernel
theorem dCh_answerToFlow_23 : decode cCh_answerToFlow 23 = .ok (.istore_n 2, 1) := by decide +kernel
theorem dCh_answerToFlow_24 : decode cCh_answerToFlow 24 = .ok (.iload_n 1, 1) := by decide +kernel
theorem dCh_answerToFlow_25 : decode cCh_answerToFlow 25 = .ok (.invokestatic 78, 3) := by decide +kernel
theorem dCh_answerToFlow_28 : decode cCh_answerToFlow 28 = .ok (.istore_n 3, 1) := by decide +kernel
theorem dCh_answerToFlow_29 : decode cCh_answerToFlow 29 = .ok (.aload_n 0, 1) := by decide +kernel
theorem dCh_answerToFlow_30 : decode cCh_answerToFlow 30 = .ok (.getfield 31, 3) := by decide +kernel
theorem dCh_answerToFlow_33 : decode cCh_answerToFlow 33 = .ok (.iload_n 3, 1) := by decide +kernel
theorem dCh_answerToFlow_34 : decode cCh_answerToFlow 34 = .ok (.invokestatic 81, 3) := by decide +kernel
theorem dCh_answerToFlow_37 : decode cCh_answerToFlow 37 = .ok (.aload_n 0, 1) := by decide +kernel
theorem dCh_answerToFlow_38 : decode cCh_answerToFlow 38 = .ok (.getfield 31, 3) := by decide +kernel
theorem dCh_answerToFlow_41 : decode cCh_answerToFlow 41 = .ok (.aload_n 0, 1) := by decide +kernel
theorem dCh_answerToFlow_42 : decode cCh_answerToFlow 42 = .ok (.getfield 28, 3) := by decide +kernel
theorem dCh_answerToFlow_45 : decode cCh_answerToFlow 45 = .ok (.invokestatic 81, 3) := by decide +kernel
theorem dCh_answerToFlow_48 : decode cCh_answerToFlow 48 = .ok (.if_icmp .le 7, 3) := by decide +kernel
theorem dCh_answerToFlow_51 : decode cCh_answerToFlow 51 = .ok (.iconst 1, 1) := by decide +kernel
theorem dCh_answerToFlow_52 : decode cCh_answerToFlow 52 = .ok (.goto 4, 3) := by decide +kernel
theorem dCh_answerToFlow_55 : decode cCh_answerToFlow 55 = .ok (.iconst 0, 1) := by decide +kernel
theorem dCh_answerToFlow_56 : decode cCh_answerToFlow 56 = .ok (.istore 4, 2) := by decide +kernel
theorem dCh_answerToFlow_58 : decode cCh_answerToFlow 58 = .ok (.iload_n 2, 1) := by decide +kernel
theorem dCh_answerToFlow_59 : decode cCh_answerToFlow 59 = .ok (.ifCond .eq 37, 3) := by decide +kernel
theorem dCh_answerToFlow_62 : decode cCh_answerToFlow 62 = .ok (.iload 4, 2) := by decide +kernel
theorem dCh_answerToFlow_64 : decode cCh_answerToFlow 64 = .ok (.ifCond .ne 25, 3) := by decide +kernel
theorem dCh_answerToFlow_67 : decode cCh_answerToFlow 67 = .ok (.iload_n 1, 1) := by decide +kernel
theorem dCh_answerToFlow_68 : decode cCh_answerToFlow 68 = .ok (.invokestatic 84, 3) := by decide +kernel
theorem dCh_answerToFlow_71 : decode cCh_answerToFlow 71 = .ok (.aload_n 0, 1) := by decide +kernel
theorem dCh_answerToFlow_72 : decode cCh_answerToFlow 72 = .ok (.getfield 34, 3) := by decide +kernel
theorem dCh_answerToFlow_75 : decode cCh_answerToFlow 75 = .ok (.if_icmp .ne 14, 3) := by decide +kernel
theorem dCh_answerToFlow_78 : decode cCh_answerToFlow 78 = .ok (.aload_n 0, 1) := by decide +kernel
theorem dCh_answerToFlow_79 : decode cCh_answerToFlow 79 = .ok (.getfield 20, 3) := by decide +kernel
theorem dCh_answerToFlow_82 : decode cCh_answerToFlow 82 = .ok (.getfield 40, 3) := by decide +kernel
theorem dCh_answerToFlow_85 : decode cCh_answerToFlow 85 = .ok (.iconst 2, 1) := by decide +kernel
theorem dCh_answerToFlow_86 : decode cCh_answerToFlow 86 = .ok (.if_icmp .lt 7, 3) := by decide +kernel
theorem dCh_answerToFlow_89 : decode cCh_answerToFlow 89 = .ok (.iconst 1, 1) := by decide +kernel
theorem dCh_answerToFlow_90 : decode cCh_answerToFlow 90 = .ok (.goto 4, 3) := by decide +kernel
theorem dCh_answerToFlow_93 : decode cCh_answerToFlow 93 = .ok (.iconst 0, 1) := by decide +kernel
theorem dCh_answerToFlow_94 : decode cCh_answerToFlow 94 = .ok (.istore 4, 2) := by decide +kernel
theorem dCh_answerToFlow_96 : decode cCh_answerToFlow 96 = .ok (.iload 4, 2) := by decide +kernel
theorem dCh_answerToFlow_98 : decode cCh_answerToFlow 98 = .ok (.ifCond .eq 11, 3) := by decide +kernel
theorem dCh_answerToFlow_101 : decode cCh_answerToFlow 101 = .ok (.aload_n 0, 1) := by decide +kernel
theorem dCh_answerToFlow_102 : decode cCh_answerToFlow 102 = .ok (.iconst 5, 1) := by decide +kernel
theorem dCh_answerToFlow_103 : decode cCh_answerToFlow 103 = .ok (.invokevirtual 75, 3) := by decide +kernel
theorem dCh_answerToFlow_106 : decode cCh_answerToFlow 106 = .ok (.bipush 7, 2) := by decide +kernel
theorem dCh_answerToFlow_108 : decode cCh_answerToFlow 108 = .ok (.ireturn, 1) := by decide +kernel
theorem dCh_answerToFlow_109 : decode cCh_answerToFlow 109 = .ok (.aload_n 0, 1) := by decide +kernel
theorem dCh_answerToFlow_110 : decode cCh_answerToFlow 110 = .ok (.iload_n 3, 1) := by decide +kernel
theorem dCh_answerToFlow_111 : decode cCh_answerToFlow 111 = .ok (.putfield 31, 3) := by decide +kernel
theorem dCh_answerToFlow_114 : decode cCh_answerToFlow 114 = .ok (.iload_n 2, 1) := by decide +kernel
theorem dCh_answerToFlow_115 : decode cCh_answerToFlow 115 = .ok (.ifCond .eq 25, 3) := by decide +kernel
theorem dCh_answerToFlow_118 : decode cCh_answerToFlow 118 = .ok (.aload_n 0, 1) := by decide +kernel
theorem dCh_answerToFlow_119 : decode cCh_answerToFlow 119 = .ok (.getfield 20, 3) := by decide +kernel
theorem dCh_answerToFlow_122 : decode cCh_answerToFlow 122 = .ok (.iload_n 1, 1) := by decide +kernel
theorem dCh_answerToFlow_123 : decode cCh_answerToFlow 123 = .ok (.invokestatic 87, 3) := by decide +kernel
theorem dCh_answerToFlow_126 : decode cCh_answerToFlow 126 = .ok (.invokevirtual 90, 3) := by decide +kernel
theorem dCh_answerToFlow_129 : decode cCh_answerToFlow 129 = .ok (.aload_n 0, 1) := by decide +kernel
theorem dCh_answerToFlow_130 : decode cCh_answerToFlow 130 = .ok (.aload_n 0, 1) := by decide +kernel
theorem dCh_answerToFlow_131 : decode cCh_answerToFlow 131 = .ok (.getfield 34, 3) := by decide +kernel
theorem dCh_answerToFlow_134 : decode cCh_answerToFlow 134 = .ok (.invokestatic 50, 3) := by decide +kernel
theorem dCh_answerToFlow_137 : decode cCh_answerToFlow 137 = .ok (.putfield 34, 3) := by decide +kernel
theorem dCh_answerToFlow_140 : decode cCh_answerToFlow 140 = .ok (.iconst 0, 1) := by decide +kernel
theorem dCh_answerToFlow_141 : decode cCh_answerToFlow 141 = .ok (.ireturn, 1) := by decide +kernel
