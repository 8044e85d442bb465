theorem dX11_allSit_16 : decode cX11_allSit 16 = .ok (.ireturn, 1) := by decide +kernel
theorem dX11_allSit_17 : decode cX11_allSit 17 = .ok (.iconst 0, 1) := by decide +kernel
theorem dX11_allSit_18 : decode cX11_allSit 18 = .ok (.istore_n 1, 1) := by decide +kernel
theorem dX11_allSit_19 : decode cX11_allSit 19 = .ok (.iload_n 1, 1) := by decide +kernel
theorem dX11_allSit_20 : decode cX11_allSit 20 = .ok (.bipush 60, 2) := by decide +kernel
theorem dX11_allSit_22 : decode cX11_allSit 22 = .ok (.if_icmp .gt 63, 3) := by decide +kernel
theorem dX11_allSit_25 : decode cX11_allSit 25 = .ok (.iconst 1, 1) := by decide +kernel
theorem dX11_allSit_26 : decode cX11_allSit 26 = .ok (.istore_n 2, 1) := by decide +kernel
theorem dX11_allSit_27 : decode cX11_allSit 27 = .ok (.iconst 0, 1) := by decide +kernel
theorem dX11_allSit_28 : decode cX11_allSit 28 = .ok (.istore_n 3, 1) := by decide +kernel
theorem dX11_allSit_29 : decode cX11_allSit 29 = .ok (.iload_n 3, 1) := by decide +kernel
theorem dX11_allSit_30 : decode cX11_allSit 30 = .ok (.aload_n 0, 1) := by decide +kernel
theorem dX11_allSit_31 : decode cX11_allSit 31 = .ok (.getfield 20, 3) := by decide +kernel
theorem dX11_allSit_34 : decode cX11_allSit 34 = .ok (.iconst 4, 1) := by decide +kernel
theorem dX11_allSit_35 : decode cX11_allSit 35 = .ok (.iaload, 1) := by decide +kernel
theorem dX11_allSit_36 : decode cX11_allSit 36 = .ok (.if_icmp .ge 37, 3) := by decide +kernel
theorem dX11_allSit_39 : decode cX11_allSit 39 = .ok (.iload_n 2, 1) := by decide +kernel
theorem dX11_allSit_40 : decode cX11_allSit 40 = .ok (.ifCond .eq 25, 3) := by decide +kernel
theorem dX11_allSit_43 : decode cX11_allSit 43 = .ok (.aload_n 0, 1) := by decide +kernel
theorem dX11_allSit_44 : decode cX11_allSit 44 = .ok (.iload_n 3, 1) := by decide +kernel
theorem dX11_allSit_45 : decode cX11_allSit 45 = .ok (.aload_n 0, 1) := by decide +kernel
theorem dX11_allSit_46 : decode cX11_allSit 46 = .ok (.getfield 26, 3) := by decide +kernel
theorem dX11_allSit_49 : decode cX11_allSit 49 = .ok (.bipush 20, 2) := by decide +kernel
theorem dX11_allSit_51 : decode cX11_allSit 51 = .ok (.iaload, 1) := by decide +kernel
theorem dX11_allSit_52 : decode cX11_allSit 52 = .ok (.iload_n 1, 1) := by decide +kernel
theorem dX11_allSit_53 : decode cX11_allSit 53 = .ok (.iadd, 1) := by decide +kernel
theorem dX11_allSit_54 : decode cX11_allSit 54 = .ok (.invokevirtual 268, 3) := by decide +kernel
theorem dX11_allSit_57 : decode cX11_allSit 57 = .ok (.iconst 2, 1) := by decide +kernel
theorem dX11_allSit_58 : decode cX11_allSit 58 = .ok (.if_icmp .lt 7, 3) := by decide +kernel
theorem dX11_allSit_61 : decode cX11_allSit 61 = .ok (.iconst 1, 1) := by decide +kernel
theorem dX11_allSit_62 : decode cX11_allSit 62 = .ok (.goto 4, 3) := by decide +kernel
theorem dX11_allSit_65 : decode cX11_allSit 65 = .ok (.iconst 0, 1) := by decide +kernel
theorem dX11_allSit_66 : decode cX11_allSit 66 = .ok (.istore_n 2, 1) := by decide +kernel
theorem dX11_allSit_67 : decode cX11_allSit 67 = .ok (.iinc 3 1, 3) := by decide +kernel
theorem dX11_allSit_70 : decode cX11_allSit 70 = .ok (.goto (-41), 3) := by decide +kernel
theorem dX11_allSit_73 : decode cX11_allSit 73 = .ok (.iload_n 2, 1) := by decide +kernel
theorem dX11_allSit_74 : decode cX11_allSit 74 = .ok (.ifCond .eq 5, 3) := by decide +kernel
theorem dX11_allSit_77 : decode cX11_allSit 77 = .ok (.iload_n 1, 1) := by decide +kernel
theorem dX11_allSit_78 : decode cX11_allSit 78 = .ok (.ireturn, 1) := by decide +kernel
theorem dX11_allSit_79 : decode cX11_allSit 79 = .ok (.iinc 1 1, 3) := by decide +kernel
theorem dX11_allSit_82 : decode cX11_allSit 82 = .ok (.goto (-63), 3) := by decide +kernel
theorem dX11_allSit_85 : decode cX11_allSit 85 = .ok (.bipush (-2), 2) := by decide +kernel
theorem dX11_allSit_87 : decode cX11_allSit 87 = .ok (.ireturn, 1) := by decide +kernel
theorem dX11_canMeet_0 : decode cX11_canMeet 0 = .ok (.iload_n 1, 1) := by decide +kernel
theorem dX11_canMeet_1 : decode cX11_canMeet 1 = .ok (.iload_n 2, 1) := by decide +kernel
theorem dX11_canMeet_2 : decode cX11_canMeet 2 = .ok (.if_icmp .eq 49, 3) := by decide +kernel
theorem dX11_canMeet_5 : decode cX11_canMeet 5 = .ok (.aload_n 0, 1) := by decide +kernel
theorem dX11_canMeet_6 : decode cX11_canMeet 6 = .ok (.iload_n 1, 1) := by decide +kernel
theorem dX11_canMeet_7 : decode cX11_canMeet 7 = .ok (.invokevirtual 262, 3) := by decide +kernel
theorem dX11_canMeet_10 : decode cX11_canMeet 10 = .ok (.ifCond .ne 41, 3) := by decide +kernel
theorem dX11_canMeet_13 : decode cX11_canMeet 13 = .ok (.aload_n 0, 1) := by decide +kernel
theorem dX11_canMeet_14 : decode cX11_canMeet 14 = .ok (.iload_n 2, 1) := by decide +kernel
theorem dX11_canMeet_15 : decode cX11_canMeet 15 = .ok (.invokevirtual 262, 3) := by decide +kernel
theorem dX11_canMeet_18 : decode cX11_canMeet 18 = .ok (.ifCond .ne 33, 3) := by decide +kernel
theorem dX11_canMeet_21 : decode cX11_canMeet 21 = .ok (.aload_n 0, 1) := by decide +kernel
theorem dX11_canMeet_22 : decode cX11_canMeet 22 = .ok (.iload_n 1, 1) := by decide +kernel
theorem dX11_canMeet_23 : decode cX11_canMeet 23 = .ok (.invokevirtual 243, 3) := by decide +kernel
theorem dX11_canMeet_26 : decode cX11_canMeet 26 = .ok (.aload_n 0, 1) := by decide +kernel
theorem dX11_canMeet_27 : decode cX11_canMeet 27 = .ok (.iload_n 2, 1) := by decide +kernel
theorem dX11_canMeet_28 : decode cX11_canMeet 28 = .ok (.invokevirtual 237, 3) := by decide +kernel
theorem dX11_canMeet_31 : decode cX11_canMeet 31 = .ok (.if_icmp .ne 20, 3) := by decide +kernel
theorem dX11_canMeet_34 : decode cX11_canMeet 34 = .ok (.aload_n 0, 1) := by decide +kernel
theorem dX11_canMeet_35 : decode cX11_canMeet 35 = .ok (.iload_n 1, 1) := by decide +kernel
theorem dX11_canMeet_36 : decode cX11_canMeet 36 = .ok (.invokevirtual 237, 3) := by decide +kernel
theorem dX11_canMeet_39 : decode cX11_canMeet 39 = .ok (.aload_n 0, 1) := by decide +kernel
theorem dX11_canMeet_40 : decode cX11_canMeet 40 = .ok (.iload_n 2, 1) := by decide +kernel
theorem dX11_canMeet_41 : decode cX11_canMeet 41 = .ok (.invokevirtual 243, 3) := by decide +kernel
theorem dX11_canMeet_44 : decode cX11_canMeet 44 = .ok (.if_icmp .ne 7, 3) := by decide +kernel
theorem dX11_canMeet_47 : decode cX11_canMeet 47 = .ok (.iconst 1, 1) := by decide +kernel
theorem dX11_canMeet_48 : decode cX11_canMeet 48 = .ok (.goto 4, 3) := by decide +kernel
theorem dX11_canMeet_51 : decode cX11_canMeet 51 = .ok (.iconst 0, 1) := by decide +kernel
theorem dX11_canMeet_52 : decode cX11_canMeet 52 = .ok (.ireturn, 1) := by decide +kernel
theorem dX11_meetingOf_0 : decode cX11_meetingOf 0 = .ok (.aload_n 0, 1) := by decide +kernel
theorem dX11_meetingOf_1 : decode cX11_meetingOf 1 = .ok (.iload_n 1, 1) := by decide +kernel
theorem dX11_meetingOf_2 : decode cX11_meetingOf 2 = .ok (.invokevirtual 274, 3) := by decide +kernel
theorem dX11_meetingOf_5 : decode cX11_meetingOf 5 = .ok (.aload_n 0, 1) := by decide +kernel
theorem dX11_meetingOf_6 : decode cX11_meetingOf 6 = .ok (.iload_n 2, 1) := by decide +kernel
theorem dX11_meetingOf_7 : decode cX11_meetingOf 7 = .ok (.invokevirtual 274, 3) := by decide +kernel
theorem dX11_meetingOf_10 : decode cX11_meetingOf 10 = .ok (.invokestatic 234, 3) := by decide +kernel
theorem dX11_meetingOf_13 : decode cX11_meetingOf 13 = .ok (.ireturn, 1) := by decide +kernel
theorem dX11_mayMeet_0 : decode cX11_mayMeet 0 = .ok (.aload_n 0, 1) := by decide +kernel
theorem dX11_mayMeet_1 : decode cX11_mayMeet 1 = .ok (.invokevirtual 153, 3) := by decide +kernel
theorem dX11_mayMeet_4 : decode cX11_mayMeet 4 = .ok (.aload_n 0, 1) := by decide +kernel
theorem dX11_mayMeet_5 : decode cX11_mayMeet 5 = .ok (.iload_n 1, 1) := by decide +kernel
theorem dX11_mayMeet_6 : decode cX11_mayMeet 6 = .ok (.invokevirtual 286, 3) := by decide +kernel
theorem dX11_mayMeet_9 : decode cX11_mayMeet 9 = .ok (.ifCond .ne 9, 3) := by decide +kernel
theorem dX11_mayMeet_12 : decode cX11_mayMeet 12 = .ok (.aload_n 0, 1) := by decide +kernel
theorem dX11_mayMeet_13 : decode cX11_mayMeet 13 = .ok (.iconst 1, 1) := by decide +kernel
theorem dX11_mayMeet_14 : decode cX11_mayMeet 14 = .ok (.invokevirtual 156, 3) := by decide +kernel
theorem dX11_mayMeet_17 : decode cX11_mayMeet 17 = .ok (.ireturn, 1) := by decide +kernel
theorem dX11_mayMeet_18 : decode cX11_mayMeet 18 = .ok (.iconst 0, 1) := by decide +kernel
theorem dX11_mayMeet_19 : decode cX11_mayMeet 19 = .ok (.istore_n 2, 1) := by decide +kernel
theorem dX11_mayMeet_20 : decode cX11_mayMeet 20 = .ok (.iconst 0, 1) := by decide +kernel
theorem dX11_mayMeet_21 : decode cX11_mayMeet 21 = .ok (.istore_n 3, 1) := by decide +kernel
theorem dX11_mayMeet_22 : decode cX11_mayMeet 22 = .ok (.iload_n 3, 1) := by decide +kernel
theorem dX11_mayMeet_23 : decode cX11_mayMeet 23 = .ok (.aload_n 0, 1) := by decide +kernel
theorem dX11_mayMeet_24 : decode cX11_mayMeet 24 = .ok (.getfield 20, 3) := by decide +kernel
theorem dX11_mayMeet_27 : decode cX11_mayMeet 27 = .ok (.iconst 4, 1) := by decide +kernel
theorem dX11_mayMeet_28 : decode cX11_mayMeet 28 = .ok (.iaload, 1) := by decide +kernel
theorem dX11_mayMeet_29 : decode cX11_mayMeet 29 = .ok (.if_icmp .ge 28, 3) := by decide +kernel
theorem dX11_mayMeet_32 : decode cX11_mayMeet 32 = .ok (.iload_n 2, 1) := by decide +kernel
theorem dX11_mayMeet_33 : decode cX11_mayMeet 33 = .ok (.aload_n 0, 1) := by decide +kernel
theorem dX11_mayMeet_34 : decode cX11_mayMeet 34 = .ok (.iload_n 1, 1) := by decide +kernel
theorem dX11_mayMeet_35 : decode cX11_mayMeet 35 = .ok (.iload_n 3, 1) := by decide +kernel
theorem dX11_mayMeet_36 : decode cX11_mayMeet 36 = .ok (.invokevirtual 305, 3) := by decide +kernel
theorem dX11_mayMeet_39 : decode cX11_mayMeet 39 = .ok (.ifCond .eq 9, 3) := by decide +kernel
theorem dX11_mayMeet_42 : decode cX11_mayMeet 42 = .ok (.iconst 1, 1) := by decide +kernel
theorem dX11_mayMeet_43 : decode cX11_mayMeet 43 = .ok (.iload_n 3, 1) := by decide +kernel
theorem dX11_mayMeet_44 : decode cX11_mayMeet 44 = .ok (.ishl, 1) := by decide +kernel
theorem dX11_mayMeet_45 : decode cX11_mayMeet 45 = .ok (.goto 4, 3) := by decide +kernel
theorem dX11_mayMeet_48 : decode cX11_mayMeet 48 = .ok (.iconst 0, 1) := by decide +kernel
theorem dX11_mayMeet_49 : decode cX11_mayMeet 49 = .ok (.ior, 1) := by decide +kernel
theorem dX11_mayMeet_50 : decode cX11_mayMeet 50 = .ok (.istore_n 2, 1) := by decide +kernel
theorem dX11_mayMeet_51 : decode cX11_mayMeet 51 = .ok (.iinc 3 1, 3) := by decide +kernel
theorem dX11_mayMeet_54 : decode cX11_mayMeet 54 = .ok (.goto (-32), 3) := by decide +kernel
theorem dX11_mayMeet_57 : decode cX11_mayMeet 57 = .ok (.iload_n 2, 1) := by decide +kernel
theorem dX11_mayMeet_58 : decode cX11_mayMeet 58 = .ok (.ireturn, 1) := by decide +kernel
theorem dX11_areTwo_0 : decode cX11_areTwo 0 = .ok (.aload_n 0, 1) := by decide +kernel
theorem dX11_areTwo_1 : decode cX11_areTwo 1 = .ok (.iload_n 1, 1) := by decide +kernel
theorem dX11_areTwo_2 : decode cX11_areTwo 2 = .ok (.invokevirtual 286, 3) := by decide +kernel
theorem dX11_areTwo_5 : decode cX11_areTwo 5 = .ok (.ifCond .eq 20, 3) := by decide +kernel
theorem dX11_areTwo_8 : decode cX11_areTwo 8 = .ok (.aload_n 0, 1) := by decide +kernel
theorem dX11_areTwo_9 : decode cX11_areTwo 9 = .ok (.iload_n 2, 1) := by decide +kernel
theorem dX11_areTwo_10 : decode cX11_areTwo 10 = .ok (.invokevirtual 286, 3) := by decide +kernel
theorem dX11_areTwo_13 : decode cX11_areTwo 13 = .ok (.ifCond .eq 12, 3) := by decide +kernel
theorem dX11_areTwo_16 : decode cX11_areTwo 16 = .ok (.iload_n 1, 1) := by decide +kernel
theorem dX11_areTwo_17 : decode cX11_areTwo 17 = .ok (.iload_n 2, 1) := by decide +kernel
theorem dX11_areTwo_18 : decode cX11_areTwo 18 = .ok (.if_icmp .eq 7, 3) := by decide +kernel
theorem dX11_areTwo_21 : decode cX11_areTwo 21 = .ok (.iconst 1, 1) := by decide +kernel
theorem dX11_areTwo_22 : decode cX11_areTwo 22 = .ok (.goto 4, 3) := by decide +kernel
theorem dX11_areTwo_25 : decode cX11_areTwo 25 = .ok (.iconst 0, 1) := by decide +kernel
theorem dX11_areTwo_26 : decode cX11_areTwo 26 = .ok (.ireturn, 1) := by decide +kernel
theorem dX11_meeting_0 : decode cX11_meeting 0 = .ok (.aload_n 0, 1) := by decide +kernel
theorem dX11_meeting_1 : decode cX11_meeting 1 = .ok (.invokevirtual 153, 3) := by decide +kernel
theorem dX11_meeting_4 : decode cX11_meeting 4 = .ok (.aload_n 0, 1) := by decide +kernel
theorem dX11_meeting_5 : decode cX11_meeting 5 = .ok (.iload_n 1, 1) := by decide +kernel
theorem dX11_meeting_6 : decode cX11_meeting 6 = .ok (.iload_n 2, 1) := by decide +kernel
theorem dX11_meeting_7 : decode cX11_meeting 7 = .ok (.invokevirtual 308, 3) := by decide +kernel
theorem dX11_meeting_10 : decode cX11_meeting 10 = .ok (.ifCond .ne 9, 3) := by decide +kernel
theorem dX11_meeting_13 : decode cX11_meeting 13 = .ok (.aload_n 0, 1) := by decide +kernel
theorem dX11_meeting_14 : decode cX11_meeting 14 = .ok (.iconst 1, 1) := by decide +kernel
theorem dX11_meeting_15 : decode cX11_meeting 15 = .ok (.invokevirtual 156, 3) := by decide +kernel
theorem dX11_meeting_18 : decode cX11_meeting 18 = .ok (.ireturn, 1) := by decide +kernel
theorem dX11_meeting_19 : decode cX11_meeting 19 = .ok (.aload_n 0, 1) := by decide +kernel
theorem dX11_meeting_20 : decode cX11_meeting 20 = .ok (.iload_n 1, 1) := by decide +kernel
theorem dX11_meeting_21 : decode cX11_meeting 21 = .ok (.iload_n 2, 1) := by decide +kernel
theorem dX11_meeting_22 : decode cX11_meeting 22 = .ok (.invokevirtual 305, 3) := by decide +kernel
theorem dX11_meeting_25 : decode cX11_meeting 25 = .ok (.ifCond .eq 12, 3) := by decide +kernel
theorem dX11_meeting_28 : decode cX11_meeting 28 = .ok (.aload_n 0, 1) := by decide +kernel
theorem dX11_meeting_29 : decode cX11_meeting 29 = .ok (.iload_n 1, 1) := by decide +kernel
theorem dX11_meeting_30 : decode cX11_meeting 30 = .ok (.iload_n 2, 1) := by decide +kernel
theorem dX11_meeting_31 : decode cX11_meeting 31 = .ok (.invokevirtual 311, 3) := by decide +kernel
theorem dX11_meeting_34 : decode cX11_meeting 34 = .ok (.goto 5, 3) := by decide +kernel
theorem dX11_meeting_37 : decode cX11_meeting 37 = .ok (.bipush (-2), 2) := by decide +kernel
theorem dX11_meeting_39 : decode cX11_meeting 39 = .ok (.ireturn, 1) := by decide +kernel
theorem dX11_owes_0 : decode cX11_owes 0 = .ok (.aload_n 0, 1) := by decide +kernel
theorem dX11_owes_1 : decode cX11_owes 1 = .ok (.invokevirtual 153, 3) := by decide +kernel
theorem dX11_owes_4 : decode cX11_owes 4 = .ok (.aload_n 0, 1) := by decide +kernel
theorem dX11_owes_5 : decode cX11_owes 5 = .ok (.iload_n 1, 1) := by decide +kernel
theorem dX11_owes_6 : decode cX11_owes 6 = .ok (.invokevirtual 277, 3) := by decide +kernel
theorem dX11_owes_9 : decode cX11_owes 9 = .ok (.ifCond .eq 15, 3) := by decide +kernel
theorem dX11_owes_12 : decode cX11_owes 12 = .ok (.aload_n 0, 1) := by decide +kernel
theorem dX11_owes_13 : decode cX11_owes 13 = .ok (.aload_n 0, 1) := by decide +kernel
theorem dX11_owes_14 : decode cX11_owes 14 = .ok (.iload_n 1, 1) := by decide +kernel
theorem dX11_owes_15 : decode cX11_owes 15 = .ok (.invokevirtual 283, 3) := by decide +kernel
theorem dX11_owes_18 : decode cX11_owes 18 = .ok (.invokevirtual 314, 3) := by decide +kernel
theorem dX11_owes_21 : decode cX11_owes 21 = .ok (.goto 8, 3) := by decide +kernel
theorem dX11_owes_24 : decode cX11_owes 24 = .ok (.aload_n 0, 1) := by decide +kernel
theorem dX11_owes_25 : decode cX11_owes 25 = .ok (.iconst 1, 1) := by decide +kernel
theorem dX11_owes_26 : decode cX11_owes 26 = .ok (.invokevirtual 156, 3) := by decide +kernel
theorem dX11_owes_29 : decode cX11_owes 29 = .ok (.ireturn, 1) := by decide +kernel
theorem dX11_poor_0 : decode cX11_poor 0 = .ok (.aload_n 0, 1) := by decide +kernel
theorem dX11_poor_1 : decode cX11_poor 1 = .ok (.invokevirtual 153, 3) := by decide +kernel
theorem dX11_poor_4 : decode cX11_poor 4 = .ok (.aload_n 0, 1) := by decide +kernel
theorem dX11_poor_5 : decode cX11_poor 5 = .ok (.getfield 166, 3) := by decide +kernel
theorem dX11_poor_8 : decode cX11_poor 8 = .ok (.ifCond .ne 9, 3) := by decide +kernel
theorem dX11_poor_11 : decode cX11_poor 11 = .ok (.aload_n 0, 1) := by decide +kernel
theorem dX11_poor_12 : decode cX11_poor 12 = .ok (.iconst 1, 1) := by decide +kernel
theorem dX11_poor_13 : decode cX11_poor 13 = .ok (.invokevirtual 156, 3) := by decide +kernel
theorem dX11_poor_16 : decode cX11_poor 16 = .ok (.ireturn, 1) := by decide +kernel
theorem dX11_poor_17 : decode cX11_poor 17 = .ok (.iconst 0, 1) := by decide +kernel
theorem dX11_poor_18 : decode cX11_poor 18 = .ok (.istore_n 1, 1) := by decide +kernel
theorem dX11_poor_19 : decode cX11_poor 19 = .ok (.iconst 0, 1) := by decide +kernel
theorem dX11_poor_20 : decode cX11_poor 20 = .ok (.istore_n 2, 1) := by decide +kernel
theorem dX11_poor_21 : decode cX11_poor 21 = .ok (.iload_n 2, 1) := by decide +kernel
theorem dX11_poor_22 : decode cX11_poor 22 = .ok (.aload_n 0, 1) := by decide +kernel
theorem dX11_poor_23 : decode cX11_poor 23 = .ok (.getfield 20, 3) := by decide +kernel
theorem dX11_poor_26 : decode cX11_poor 26 = .ok (.iconst 3, 1) := by decide +kernel
theorem dX11_poor_27 : decode cX11_poor 27 = .ok (.iaload, 1) := by decide +kernel
theorem dX11_poor_28 : decode cX11_poor 28 = .ok (.if_icmp .ge 40, 3) := by decide +kernel
theorem dX11_poor_31 : decode cX11_poor 31 = .ok (.iload_n 1, 1) := by decide +kernel
theorem dX11_poor_32 : decode cX11_poor 32 = .ok (.aload_n 0, 1) := by decide +kernel
theorem dX11_poor_33 : decode cX11_poor 33 = .ok (.getfield 26, 3) := by decide +kernel
theorem dX11_poor_36 : decode cX11_poor 36 = .ok (.bipush 13, 2) := by decide +kernel
theorem dX11_poor_38 : decode cX11_poor 38 = .ok (.iload_n 2, 1) := by decide +kernel
theorem dX11_poor_39 : decode cX11_poor 39 = .ok (.iadd, 1) := by decide +kernel
theorem dX11_poor_40 : decode cX11_poor 40 = .ok (.iaload, 1) := by decide +kernel
theorem dX11_poor_41 : decode cX11_poor 41 = .ok (.aload_n 0, 1) := by decide +kernel
theorem dX11_poor_42 : decode cX11_poor 42 = .ok (.aload_n 0, 1) := by decide +kernel
theorem dX11_poor_43 : decode cX11_poor 43 = .ok (.iload_n 2, 1) := by decide +kernel
theorem dX11_poor_44 : decode cX11_poor 44 = .ok (.invokevirtual 283, 3) := by decide +kernel
theorem dX11_poor_47 : decode cX11_poor 47 = .ok (.invokevirtual 314, 3) := by decide +kernel
theorem dX11_poor_50 : decode cX11_poor 50 = .ok (.if_icmp .ge 9, 3) := by decide +kernel
theorem dX11_poor_53 : decode cX11_poor 53 = .ok (.iconst 1, 1) := by decide +kernel
theorem dX11_poor_54 : decode cX11_poor 54 = .ok (.iload_n 2, 1) := by decide +kernel
theorem dX11_poor_55 : decode cX11_poor 55 = .ok (.ishl, 1) := by decide +kernel
theorem dX11_poor_56 : decode cX11_poor 56 = .ok (.goto 4, 3) := by decide +kernel
theorem dX11_poor_59 : decode cX11_poor 59 = .ok (.iconst 0, 1) := by decide +kernel
theorem dX11_poor_60 : decode cX11_poor 60 = .ok (.ior, 1) := by decide +kernel
theorem dX11_poor_61 : decode cX11_poor 61 = .ok (.istore_n 1, 1) := by decide +kernel
theorem dX11_poor_62 : decode cX11_poor 62 = .ok (.iinc 2 1, 3) := by decide +kernel
theorem dX11_poor_65 : decode cX11_poor 65 = .ok (.goto (-44), 3) := by decide +kernel
theorem dX11_poor_68 : decode cX11_poor 68 = .ok (.iload_n 1, 1) := by decide +kernel
theorem dX11_poor_69 : decode cX11_poor 69 = .ok (.ireturn, 1) := by decide +kernel
theorem dX11_tryPeace_0 : decode cX11_tryPeace 0 = .ok (.iload_n 1, 1) := by decide +kernel
theorem dX11_tryPeace_1 : decode cX11_tryPeace 1 = .ok (.aload_n 0, 1) := by decide +kernel
theorem dX11_tryPeace_2 : decode cX11_tryPeace 2 = .ok (.getfield 20, 3) := by decide +kernel
theorem dX11_tryPeace_5 : decode cX11_tryPeace 5 = .ok (.iconst 4, 1) := by decide +kernel
theorem dX11_tryPeace_6 : decode cX11_tryPeace 6 = .ok (.iaload, 1) := by decide +kernel
theorem dX11_tryPeace_7 : decode cX11_tryPeace 7 = .ok (.if_icmp .ne 70, 3) := by decide +kernel
theorem dX11_tryPeace_10 : decode cX11_tryPeace 10 = .ok (.aload_n 0, 1) := by decide +kernel
theorem dX11_tryPeace_11 : decode cX11_tryPeace 11 = .ok (.iload_n 3, 1) := by decide +kernel
theorem dX11_tryPeace_12 : decode cX11_tryPeace 12 = .ok (.aload_n 0, 1) := by decide +kernel
theorem dX11_tryPeace_13 : decode cX11_tryPeace 13 = .ok (.getfield 317, 3) := by decide +kernel
theorem dX11_tryPeace_16 : decode cX11_tryPeace 16 = .ok (.if_icmp .ge 7, 3) := by decide +kernel
theorem dX11_tryPeace_19 : decode cX11_tryPeace 19 = .ok (.iconst 1, 1) := by decide +kernel
theorem dX11_tryPeace_20 : decode cX11_tryPeace 20 = .ok (.goto 24, 3) := by decide +kernel
theorem dX11_tryPeace_23 : decode cX11_tryPeace 23 = .ok (.iload_n 3, 1) := by decide +kernel
theorem dX11_tryPeace_24 : decode cX11_tryPeace 24 = .ok (.aload_n 0, 1) := by decide +kernel
theorem dX11_tryPeace_25 : decode cX11_tryPeace 25 = .ok (.getfield 317, 3) := by decide +kernel
theorem dX11_tryPeace_28 : decode cX11_tryPeace 28 = .ok (.if_icmp .ne 12, 3) := by decide +kernel
theorem dX11_tryPeace_31 : decode cX11_tryPeace 31 = .ok (.aload_n 0, 1) := by decide +kernel
theorem dX11_tryPeace_32 : decode cX11_tryPeace 32 = .ok (.getfield 320, 3) := by decide +kernel
theorem dX11_tryPeace_35 : decode cX11_tryPeace 35 = .ok (.iconst 1, 1) := by decide +kernel
theorem dX11_tryPeace_36 : decode cX11_tryPeace 36 = .ok (.iadd, 1) := by decide +kernel
theorem dX11_tryPeace_37 : decode cX11_tryPeace 37 = .ok (.goto 7, 3) := by decide +kernel
theorem dX11_tryPeace_40 : decode cX11_tryPeace 40 = .ok (.aload_n 0, 1) := by decide +kernel
theorem dX11_tryPeace_41 : decode cX11_tryPeace 41 = .ok (.getfield 320, 3) := by decide +kernel
theorem dX11_tryPeace_44 : decode cX11_tryPeace 44 = .ok (.putfield 320, 3) := by decide +kernel
theorem dX11_tryPeace_47 : decode cX11_tryPeace 47 = .ok (.iload_n 3, 1) := by decide +kernel
theorem dX11_tryPeace_48 : decode cX11_tryPeace 48 = .ok (.aload_n 0, 1) := by decide +kernel
theorem dX11_tryPeace_49 : decode cX11_tryPeace 49 = .ok (.getfield 317, 3) := by decide +kernel
theorem dX11_tryPeace_52 : decode cX11_tryPeace 52 = .ok (.if_icmp .lt 4, 3) := by decide +kernel
theorem dX11_tryPeace_55 : decode cX11_tryPeace 55 = .ok (.return_, 1) := by decide +kernel
theorem dX11_tryPeace_56 : decode cX11_tryPeace 56 = .ok (.aload_n 0, 1) := by decide +kernel
theorem dX11_tryPeace_57 : decode cX11_tryPeace 57 = .ok (.iload_n 3, 1) := by decide +kernel
theorem dX11_tryPeace_58 : decode cX11_tryPeace 58 = .ok (.putfield 317, 3) := by decide +kernel
theorem dX11_tryPeace_61 : decode cX11_tryPeace 61 = .ok (.aload_n 0, 1) := by decide +kernel
theorem dX11_tryPeace_62 : decode cX11_tryPeace 62 = .ok (.getfield 35, 3) := by decide +kernel
theorem dX11_tryPeace_65 : decode cX11_tryPeace 65 = .ok (.iconst 0, 1) := by decide +kernel
theorem dX11_tryPeace_66 : decode cX11_tryPeace 66 = .ok (.aload_n 0, 1) := by decide +kernel
theorem dX11_tryPeace_67 : decode cX11_tryPeace 67 = .ok (.getfield 38, 3) := by decide +kernel
theorem dX11_tryPeace_70 : decode cX11_tryPeace 70 = .ok (.iconst 0, 1) := by decide +kernel
theorem dX11_tryPeace_71 : decode cX11_tryPeace 71 = .ok (.bipush 7, 2) := by decide +kernel
theorem dX11_tryPeace_73 : decode cX11_tryPeace 73 = .ok (.invokestatic 162, 3) := by decide +kernel
theorem dX11_tryPeace_76 : decode cX11_tryPeace 76 = .ok (.return_, 1) := by decide +kernel
theorem dX11_tryPeace_77 : decode cX11_tryPeace 77 = .ok (.aload_n 0, 1) := by decide +kernel
theorem dX11_tryPeace_78 : decode cX11_tryPeace 78 = .ok (.iload_n 1, 1) := by decide +kernel
theorem dX11_tryPeace_79 : decode cX11_tryPeace 79 = .ok (.invokevirtual 262, 3) := by decide +kernel
theorem dX11_tryPeace_82 : decode cX11_tryPeace 82 = .ok (.ifCond .ne 11, 3) := by decide +kernel
theorem dX11_tryPeace_85 : decode cX11_tryPeace 85 = .ok (.iload_n 2, 1) := by decide +kernel
theorem dX11_tryPeace_86 : decode cX11_tryPeace 86 = .ok (.iload_n 1, 1) := by decide +kernel
theorem dX11_tryPeace_87 : decode cX11_tryPeace 87 = .ok (.invokestatic 252, 3) := by decide +kernel
theorem dX11_tryPeace_90 : decode cX11_tryPeace 90 = .ok (.ifCond .eq 13, 3) := by decide +kernel
theorem dX11_tryPeace_93 : decode cX11_tryPeace 93 = .ok (.aload_n 0, 1) := by decide +kernel
theorem dX11_tryPeace_94 : decode cX11_tryPeace 94 = .ok (.iload_n 1, 1) := by decide +kernel
theorem dX11_tryPeace_95 : decode cX11_tryPeace 95 = .ok (.iconst 1, 1) := by decide +kernel
theorem dX11_tryPeace_96 : decode cX11_tryPeace 96 = .ok (.iadd, 1) := by decide +kernel
theorem dX11_tryPeace_97 : decode cX11_tryPeace 97 = .ok (.iload_n 2, 1) := by decide +kernel
theorem dX11_tryPeace_98 : decode cX11_tryPeace 98 = .ok (.iload_n 3, 1) := by decide +kernel
theorem dX11_tryPeace_99 : decode cX11_tryPeace 99 = .ok (.invokevirtual 323, 3) := by decide +kernel
theorem dX11_tryPeace_102 : decode cX11_tryPeace 102 = .ok (.return_, 1) := by decide +kernel
theorem dX11_tryPeace_103 : decode cX11_tryPeace 103 = .ok (.aload_n 0, 1) := by decide +kernel
theorem dX11_tryPeace_104 : decode cX11_tryPeace 104 = .ok (.getfield 35, 3) := by decide +kernel
theorem dX11_tryPeace_107 : decode cX11_tryPeace 107 = .ok (.iload_n 1, 1) := by decide +kernel
theorem dX11_tryPeace_108 : decode cX11_tryPeace 108 = .ok (.bipush (-2), 2) := by decide +kernel
theorem dX11_tryPeace_110 : decode cX11_tryPeace 110 = .ok (.iastore, 1) := by decide +kernel
theorem dX11_tryPeace_111 : decode cX11_tryPeace 111 = .ok (.aload_n 0, 1) := by decide +kernel
theorem dX11_tryPeace_112 : decode cX11_tryPeace 112 = .ok (.iload_n 1, 1) := by decide +kernel
theorem dX11_tryPeace_113 : decode cX11_tryPeace 113 = .ok (.iconst 1, 1) := by decide +kernel
theorem dX11_tryPeace_114 : decode cX11_tryPeace 114 = .ok (.iadd, 1) := by decide +kernel
theorem dX11_tryPeace_115 : decode cX11_tryPeace 115 = .ok (.iload_n 2, 1) := by decide +kernel
theorem dX11_tryPeace_116 : decode cX11_tryPeace 116 = .ok (.iload_n 3, 1) := by decide +kernel
theorem dX11_tryPeace_117 : decode cX11_tryPeace 117 = .ok (.aload_n 0, 1) := by decide +kernel
theorem dX11_tryPeace_118 : decode cX11_tryPeace 118 = .ok (.iload_n 1, 1) := by decide +kernel
theorem dX11_tryPeace_119 : decode cX11_tryPeace 119 = .ok (.invokevirtual 274, 3) := by decide +kernel
theorem dX11_tryPeace_122 : decode cX11_tryPeace 122 = .ok (.iadd, 1) := by decide +kernel
theorem dX11_tryPeace_123 : decode cX11_tryPeace 123 = .ok (.invokevirtual 323, 3) := by decide +kernel
theorem dX11_tryPeace_126 : decode cX11_tryPeace 126 = .ok (.iload_n 1, 1) := by decide +kernel
theorem dX11_tryPeace_127 : decode cX11_tryPeace 127 = .ok (.iconst 1, 1) := by decide +kernel
theorem dX11_tryPeace_128 : decode cX11_tryPeace 128 = .ok (.iadd, 1) := by decide +kernel
theorem dX11_tryPeace_129 : decode cX11_tryPeace 129 = .ok (.istore 4, 2) := by decide +kernel
theorem dX11_tryPeace_131 : decode cX11_tryPeace 131 = .ok (.iload 4, 2) := by decide +kernel
theorem dX11_tryPeace_133 : decode cX11_tryPeace 133 = .ok (.aload_n 0, 1) := by decide +kernel
theorem dX11_tryPeace_134 : decode cX11_tryPeace 134 = .ok (.getfield 20, 3) := by decide +kernel
theorem dX11_tryPeace_137 : decode cX11_tryPeace 137 = .ok (.iconst 4, 1) := by decide +kernel
theorem dX11_tryPeace_138 : decode cX11_tryPeace 138 = .ok (.iaload, 1) := by decide +kernel
theorem dX11_tryPeace_139 : decode cX11_tryPeace 139 = .ok (.if_icmp .ge 69, 3) := by decide +kernel
theorem dX11_tryPeace_142 : decode cX11_tryPeace 142 = .ok (.iload_n 2, 1) := by decide +kernel
theorem dX11_tryPeace_143 : decode cX11_tryPeace 143 = .ok (.iload 4, 2) := by decide +kernel
theorem dX11_tryPeace_145 : decode cX11_tryPeace 145 = .ok (.invokestatic 252, 3) := by decide +kernel
theorem dX11_tryPeace_148 : decode cX11_tryPeace 148 = .ok (.ifCond .ne 54, 3) := by decide +kernel
theorem dX11_tryPeace_151 : decode cX11_tryPeace 151 = .ok (.aload_n 0, 1) := by decide +kernel
theorem dX11_tryPeace_152 : decode cX11_tryPeace 152 = .ok (.iload_n 1, 1) := by decide +kernel
theorem dX11_tryPeace_153 : decode cX11_tryPeace 153 = .ok (.iload 4, 2) := by decide +kernel
theorem dX11_tryPeace_155 : decode cX11_tryPeace 155 = .ok (.invokevirtual 305, 3) := by decide +kernel
theorem dX11_tryPeace_158 : decode cX11_tryPeace 158 = .ok (.ifCond .ne 6, 3) := by decide +kernel
theorem dX11_tryPeace_161 : decode cX11_tryPeace 161 = .ok (.goto 41, 3) := by decide +kernel
theorem dX11_tryPeace_164 : decode cX11_tryPeace 164 = .ok (.aload_n 0, 1) := by decide +kernel
theorem dX11_tryPeace_165 : decode cX11_tryPeace 165 = .ok (.getfield 35, 3) := by decide +kernel
theorem dX11_tryPeace_168 : decode cX11_tryPeace 168 = .ok (.iload_n 1, 1) := by decide +kernel
theorem dX11_tryPeace_169 : decode cX11_tryPeace 169 = .ok (.iload 4, 2) := by decide +kernel
theorem dX11_tryPeace_171 : decode cX11_tryPeace 171 = .ok (.iastore, 1) := by decide +kernel
theorem dX11_tryPeace_172 : decode cX11_tryPeace 172 = .ok (.aload_n 0, 1) := by decide +kernel
theorem dX11_tryPeace_173 : decode cX11_tryPeace 173 = .ok (.getfield 35, 3) := by decide +kernel
theorem dX11_tryPeace_176 : decode cX11_tryPeace 176 = .ok (.iload 4, 2) := by decide +kernel
theorem dX11_tryPeace_178 : decode cX11_tryPeace 178 = .ok (.iload_n 1, 1) := by decide +kernel
theorem dX11_tryPeace_179 : decode cX11_tryPeace 179 = .ok (.iastore, 1) := by decide +kernel
theorem dX11_tryPeace_180 : decode cX11_tryPeace 180 = .ok (.aload_n 0, 1) := by decide +kernel
theorem dX11_tryPeace_181 : decode cX11_tryPeace 181 = .ok (.iload_n 1, 1) := by decide +kernel
theorem dX11_tryPeace_182 : decode cX11_tryPeace 182 = .ok (.iconst 1, 1) := by decide +kernel
theorem dX11_tryPeace_183 : decode cX11_tryPeace 183 = .ok (.iadd, 1) := by decide +kernel
theorem dX11_tryPeace_184 : decode cX11_tryPeace 184 = .ok (.iload_n 2, 1) := by decide +kernel
theorem dX11_tryPeace_185 : decode cX11_tryPeace 185 = .ok (.iconst 1, 1) := by decide +kernel
theorem dX11_tryPeace_186 : decode cX11_tryPeace 186 = .ok (.iload 4, 2) := by decide +kernel
theorem dX11_tryPeace_188 : decode cX11_tryPeace 188 = .ok (.ishl, 1) := by decide +kernel
theorem dX11_tryPeace_189 : decode cX11_tryPeace 189 = .ok (.ior, 1) := by decide +kernel
theorem dX11_tryPeace_190 : decode cX11_tryPeace 190 = .ok (.iload_n 3, 1) := by decide +kernel
theorem dX11_tryPeace_191 : decode cX11_tryPeace 191 = .ok (.aload_n 0, 1) := by decide +kernel
theorem dX11_tryPeace_192 : decode cX11_tryPeace 192 = .ok (.iload_n 1, 1) := by decide +kernel
theorem dX11_tryPeace_193 : decode cX11_tryPeace 193 = .ok (.iload 4, 2) := by decide +kernel
theorem dX11_tryPeace_195 : decode cX11_tryPeace 195 = .ok (.invokevirtual 311, 3) := by decide +kernel
theorem dX11_tryPeace_198 : decode cX11_tryPeace 198 = .ok (.iadd, 1) := by decide +kernel
theorem dX11_tryPeace_199 : decode cX11_tryPeace 199 = .ok (.invokevirtual 323, 3) := by decide +kernel
theorem dX11_tryPeace_202 : decode cX11_tryPeace 202 = .ok (.iinc 4 1, 3) := by decide +kernel
theorem dX11_tryPeace_205 : decode cX11_tryPeace 205 = .ok (.goto (-74), 3) := by decide +kernel
theorem dX11_tryPeace_208 : decode cX11_tryPeace 208 = .ok (.return_, 1) := by decide +kernel
theorem dX11_seekPeace_0 : decode cX11_seekPeace 0 = .ok (.iconst 0, 1) := by decide +kernel
theorem dX11_seekPeace_1 : decode cX11_seekPeace 1 = .ok (.istore_n 1, 1) := by decide +kernel
theorem dX11_seekPeace_2 : decode cX11_seekPeace 2 = .ok (.iload_n 1, 1) := by decide +kernel
theorem dX11_seekPeace_3 : decode cX11_seekPeace 3 = .ok (.bipush 7, 2) := by decide +kernel
theorem dX11_seekPeace_5 : decode cX11_seekPeace 5 = .ok (.if_icmp .ge 17, 3) := by decide +kernel
theorem dX11_seekPeace_8 : decode cX11_seekPeace 8 = .ok (.aload_n 0, 1) := by decide +kernel
theorem dX11_seekPeace_9 : decode cX11_seekPeace 9 = .ok (.getfield 35, 3) := by decide +kernel
theorem dX11_seekPeace_12 : decode cX11_seekPeace 12 = .ok (.iload_n 1, 1) := by decide +kernel
theorem dX11_seekPeace_13 : decode cX11_seekPeace 13 = .ok (.bipush (-2), 2) := by decide +kernel
theorem dX11_seekPeace_15 : decode cX11_seekPeace 15 = .ok (.iastore, 1) := by decide +kernel
theorem dX11_seekPeace_16 : decode cX11_seekPeace 16 = .ok (.iinc 1 1, 3) := by decide +kernel
theorem dX11_seekPeace_19 : decode cX11_seekPeace 19 = .ok (.goto (-17), 3) := by decide +kernel
theorem dX11_seekPeace_22 : decode cX11_seekPeace 22 = .ok (.aload_n 0, 1) := by decide +kernel
theorem dX11_seekPeace_23 : decode cX11_seekPeace 23 = .ok (.ldc_w 327, 3) := by decide +kernel
theorem dX11_seekPeace_26 : decode cX11_seekPeace 26 = .ok (.putfield 317, 3) := by decide +kernel
theorem dX11_seekPeace_29 : decode cX11_seekPeace 29 = .ok (.aload_n 0, 1) := by decide +kernel
theorem dX11_seekPeace_30 : decode cX11_seekPeace 30 = .ok (.iconst 0, 1) := by decide +kernel
theorem dX11_seekPeace_31 : decode cX11_seekPeace 31 = .ok (.putfield 320, 3) := by decide +kernel
theorem dX11_seekPeace_34 : decode cX11_seekPeace 34 = .ok (.aload_n 0, 1) := by decide +kernel
theorem dX11_seekPeace_35 : decode cX11_seekPeace 35 = .ok (.iconst 0, 1) := by decide +kernel
theorem dX11_seekPeace_36 : decode cX11_seekPeace 36 = .ok (.iconst 0, 1) := by decide +kernel
theorem dX11_seekPeace_37 : decode cX11_seekPeace 37 = .ok (.iconst 0, 1) := by decide +kernel
theorem dX11_seekPeace_38 : decode cX11_seekPeace 38 = .ok (.invokevirtual 323, 3) := by decide +kernel
theorem dX11_seekPeace_41 : decode cX11_seekPeace 41 = .ok (.return_, 1) := by decide +kernel
theorem dX11_peace_0 : decode cX11_peace 0 = .ok (.aload_n 0, 1) := by decide +kernel
theorem dX11_peace_1 : decode cX11_peace 1 = .ok (.invokevirtual 153, 3) := by decide +kernel
theorem dX11_peace_4 : decode cX11_peace 4 = .ok (.aload_n 0, 1) := by decide +kernel
theorem dX11_peace_5 : decode cX11_peace 5 = .ok (.getfield 166, 3) := by decide +kernel
theorem dX11_peace_8 : decode cX11_peace 8 = .ok (.ifCond .ne 9, 3) := by decide +kernel
theorem dX11_peace_11 : decode cX11_peace 11 = .ok (.aload_n 0, 1) := by decide +kernel
theorem dX11_peace_12 : decode cX11_peace 12 = .ok (.iconst 1, 1) := by decide +kernel
theorem dX11_peace_13 : decode cX11_peace 13 = .ok (.invokevirtual 156, 3) := by decide +kernel
theorem dX11_peace_16 : decode cX11_peace 16 = .ok (.ireturn, 1) := by decide +kernel
theorem dX11_peace_17 : decode cX11_peace 17 = .ok (.aload_n 0, 1) := by decide +kernel
theorem dX11_peace_18 : decode cX11_peace 18 = .ok (.invokevirtual 328, 3) := by decide +kernel
theorem dX11_peace_21 : decode cX11_peace 21 = .ok (.aload_n 0, 1) := by decide +kernel
theorem dX11_peace_22 : decode cX11_peace 22 = .ok (.getfield 317, 3) := by decide +kernel
theorem dX11_peace_25 : decode cX11_peace 25 = .ok (.ireturn, 1) := by decide +kernel
theorem dX11_mate_0 : decode cX11_mate 0 = .ok (.aload_n 0, 1) := by decide +kernel
theorem dX11_mate_1 : decode cX11_mate 1 = .ok (.invokevirtual 153, 3) := by decide +kernel
theorem dX11_mate_4 : decode cX11_mate 4 = .ok (.aload_n 0, 1) := by decide +kernel
theorem dX11_mate_5 : decode cX11_mate 5 = .ok (.iload_n 1, 1) := by decide +kernel
theorem dX11_mate_6 : decode cX11_mate 6 = .ok (.invokevirtual 286, 3) := by decide +kernel
theorem dX11_mate_9 : decode cX11_mate 9 = .ok (.ifCond .ne 9, 3) := by decide +kernel
theorem dX11_mate_12 : decode cX11_mate 12 = .ok (.aload_n 0, 1) := by decide +kernel
theorem dX11_mate_13 : decode cX11_mate 13 = .ok (.iconst 1, 1) := by decide +kernel
theorem dX11_mate_14 : decode cX11_mate 14 = .ok (.invokevirtual 156, 3) := by decide +kernel
theorem dX11_mate_17 : decode cX11_mate 17 = .ok (.ireturn, 1) := by decide +kernel
theorem dX11_mate_18 : decode cX11_mate 18 = .ok (.aload_n 0, 1) := by decide +kernel
theorem dX11_mate_19 : decode cX11_mate 19 = .ok (.invokevirtual 328, 3) := by decide +kernel
theorem dX11_mate_22 : decode cX11_mate 22 = .ok (.aload_n 0, 1) := by decide +kernel
theorem dX11_mate_23 : decode cX11_mate 23 = .ok (.iload_n 1, 1) := by decide +kernel
theorem dX11_mate_24 : decode cX11_mate 24 = .ok (.invokevirtual 262, 3) := by decide +kernel
theorem dX11_mate_27 : decode cX11_mate 27 = .ok (.ifCond .eq 8, 3) := by decide +kernel
theorem dX11_mate_30 : decode cX11_mate 30 = .ok (.bipush (-2), 2) := by decide +kernel
theorem dX11_mate_32 : decode cX11_mate 32 = .ok (.goto 9, 3) := by decide +kernel
theorem dX11_mate_35 : decode cX11_mate 35 = .ok (.aload_n 0, 1) := by decide +kernel
theorem dX11_mate_36 : decode cX11_mate 36 = .ok (.getfield 38, 3) := by decide +kernel
theorem dX11_mate_39 : decode cX11_mate 39 = .ok (.iload_n 1, 1) := by decide +kernel
theorem dX11_mate_40 : decode cX11_mate 40 = .ok (.iaload, 1) := by decide +kernel
theorem dX11_mate_41 : decode cX11_mate 41 = .ok (.ireturn, 1) := by decide +kernel
theorem dX11_peaces_0 : decode cX11_peaces 0 = .ok (.aload_n 0, 1) := by decide +kernel
theorem dX11_peaces_1 : decode cX11_peaces 1 = .ok (.invokevirtual 153, 3) := by decide +kernel
theorem dX11_peaces_4 : decode cX11_peaces 4 = .ok (.aload_n 0, 1) := by decide +kernel
theorem dX11_peaces_5 : decode cX11_peaces 5 = .ok (.getfield 166, 3) := by decide +kernel
theorem dX11_peaces_8 : decode cX11_peaces 8 = .ok (.ifCond .ne 9, 3) := by decide +kernel
theorem dX11_peaces_11 : decode cX11_peaces 11 = .ok (.aload_n 0, 1) := by decide +kernel
theorem dX11_peaces_12 : decode cX11_peaces 12 = .ok (.iconst 1, 1) := by decide +kernel
theorem dX11_peaces_13 : decode cX11_peaces 13 = .ok (.invokevirtual 156, 3) := by decide +kernel
theorem dX11_peaces_16 : decode cX11_peaces 16 = .ok (.ireturn, 1) := by decide +kernel
theorem dX11_peaces_17 : decode cX11_peaces 17 = .ok (.aload_n 0, 1) := by decide +kernel
theorem dX11_peaces_18 : decode cX11_peaces 18 = .ok (.invokevirtual 328, 3) := by decide +kernel
theorem dX11_peaces_21 : decode cX11_peaces 21 = .ok (.aload_n 0, 1) := by decide +kernel
theorem dX11_peaces_22 : decode cX11_peaces 22 = .ok (.getfield 320, 3) := by decide +kernel
theorem dX11_peaces_25 : decode cX11_peaces 25 = .ok (.ireturn, 1) := by decide +kernel
theorem dX11_most_0 : decode cX11_most 0 = .ok (.aload_n 0, 1) := by decide +kernel
theorem dX11_most_1 : decode cX11_most 1 = .ok (.invokevirtual 153, 3) := by decide +kernel
theorem dX11_most_4 : decode cX11_most 4 = .ok (.aload_n 0, 1) := by decide +kernel
theorem dX11_most_5 : decode cX11_most 5 = .ok (.aload_n 0, 1) := by decide +kernel
theorem dX11_most_6 : decode cX11_most 6 = .ok (.getfield 166, 3) := by decide +kernel
theorem dX11_most_9 : decode cX11_most 9 = .ok (.iload_n 1, 1) := by decide +kernel
theorem dX11_most_10 : decode cX11_most 10 = .ok (.sipush 999, 3) := by decide +kernel
theorem dX11_most_13 : decode cX11_most 13 = .ok (.invokevirtual 298, 3) := by decide +kernel
theorem dX11_most_16 : decode cX11_most 16 = .ok (.istore_n 2, 1) := by decide +kernel
theorem dX11_most_17 : decode cX11_most 17 = .ok (.iload_n 2, 1) := by decide +kernel
theorem dX11_most_18 : decode cX11_most 18 = .ok (.ifCond .eq 9, 3) := by decide +kernel
theorem dX11_most_21 : decode cX11_most 21 = .ok (.aload_n 0, 1) := by decide +kernel
theorem dX11_most_22 : decode cX11_most 22 = .ok (.iload_n 2, 1) := by decide +kernel
theorem dX11_most_23 : decode cX11_most 23 = .ok (.invokevirtual 156, 3) := by decide +kernel
theorem dX11_most_26 : decode cX11_most 26 = .ok (.ireturn, 1) := by decide +kernel
theorem dX11_most_27 : decode cX11_most 27 = .ok (.iconst 0, 1) := by decide +kernel
theorem dX11_most_28 : decode cX11_most 28 = .ok (.istore_n 3, 1) := by decide +kernel
theorem dX11_most_29 : decode cX11_most 29 = .ok (.iconst 1, 1) := by decide +kernel
theorem dX11_most_30 : decode cX11_most 30 = .ok (.istore 4, 2) := by decide +kernel
theorem dX11_most_32 : decode cX11_most 32 = .ok (.iload 4, 2) := by decide +kernel
theorem dX11_most_34 : decode cX11_most 34 = .ok (.aload_n 0, 1) := by decide +kernel
theorem dX11_most_35 : decode cX11_most 35 = .ok (.invokevirtual 271, 3) := by decide +kernel
theorem dX11_most_38 : decode cX11_most 38 = .ok (.if_icmp .gt 74, 3) := by decide +kernel
theorem dX11_most_41 : decode cX11_most 41 = .ok (.iload 4, 2) := by decide +kernel
theorem dX11_most_43 : decode cX11_most 43 = .ok (.aload_n 0, 1) := by decide +kernel
theorem dX11_most_44 : decode cX11_most 44 = .ok (.getfield 26, 3) := by decide +kernel
theorem dX11_most_47 : decode cX11_most 47 = .ok (.bipush 19, 2) := by decide +kernel
theorem dX11_most_49 : decode cX11_most 49 = .ok (.iaload, 1) := by decide +kernel
theorem dX11_most_50 : decode cX11_most 50 = .ok (.iand, 1) := by decide +kernel
theorem dX11_most_51 : decode cX11_most 51 = .ok (.ifCond .ne 55, 3) := by decide +kernel
theorem dX11_most_54 : decode cX11_most 54 = .ok (.aload_n 0, 1) := by decide +kernel
theorem dX11_most_55 : decode cX11_most 55 = .ok (.iload 4, 2) := by decide +kernel
theorem dX11_most_57 : decode cX11_most 57 = .ok (.invokevirtual 314, 3) := by decide +kernel
theorem dX11_most_60 : decode cX11_most 60 = .ok (.iload_n 1, 1) := by decide +kernel
theorem dX11_most_61 : decode cX11_most 61 = .ok (.if_icmp .le 6, 3) := by decide +kernel
theorem dX11_most_64 : decode cX11_most 64 = .ok (.goto 42, 3) := by decide +kernel
theorem dX11_most_67 : decode cX11_most 67 = .ok (.iload 4, 2) := by decide +kernel
theorem dX11_most_69 : decode cX11_most 69 = .ok (.invokestatic 295, 3) := by decide +kernel
theorem dX11_most_72 : decode cX11_most 72 = .ok (.iload_n 3, 1) := by decide +kernel
theorem dX11_most_73 : decode cX11_most 73 = .ok (.invokestatic 295, 3) := by decide +kernel
theorem dX11_most_76 : decode cX11_most 76 = .ok (.isub, 1) := by decide +kernel
theorem dX11_most_77 : decode cX11_most 77 = .ok (.istore 5, 2) := by decide +kernel
theorem dX11_most_79 : decode cX11_most 79 = .ok (.iload 5, 2) := by decide +kernel
theorem dX11_most_81 : decode cX11_most 81 = .ok (.ifCond .gt 22, 3) := by decide +kernel
theorem dX11_most_84 : decode cX11_most 84 = .ok (.iload 5, 2) := by decide +kernel
theorem dX11_most_86 : decode cX11_most 86 = .ok (.ifCond .ne 20, 3) := by decide +kernel
theorem dX11_most_89 : decode cX11_most 89 = .ok (.aload_n 0, 1) := by decide +kernel
theorem dX11_most_90 : decode cX11_most 90 = .ok (.iload 4, 2) := by decide +kernel
theorem dX11_most_92 : decode cX11_most 92 = .ok (.invokevirtual 314, 3) := by decide +kernel
theorem dX11_most_95 : decode cX11_most 95 = .ok (.aload_n 0, 1) := by decide +kernel
theorem dX11_most_96 : decode cX11_most 96 = .ok (.iload_n 3, 1) := by decide +kernel
theorem dX11_most_97 : decode cX11_most 97 = .ok (.invokevirtual 314, 3) := by decide +kernel
theorem dX11_most_100 : decode cX11_most 100 = .ok (.if_icmp .ge 6, 3) := by decide +kernel
theorem dX11_most_103 : decode cX11_most 103 = .ok (.iload 4, 2) := by decide +kernel
theorem dX11_most_105 : decode cX11_most 105 = .ok (.istore_n 3, 1) := by decide +kernel
theorem dX11_most_106 : decode cX11_most 106 = .ok (.iinc 4 1, 3) := by decide +kernel
theorem dX11_most_109 : decode cX11_most 109 = .ok (.goto (-77), 3) := by decide +kernel
theorem dX11_most_112 : decode cX11_most 112 = .ok (.iload_n 3, 1) := by decide +kernel
theorem dX11_most_113 : decode cX11_most 113 = .ok (.ireturn, 1) := by decide +kernel
theorem dX11_coinsFor_0 : decode cX11_coinsFor 0 = .ok (.aload_n 0, 1) := by decide +kernel
theorem dX11_coinsFor_1 : decode cX11_coinsFor 1 = .ok (.invokevirtual 153, 3) := by decide +kernel
theorem dX11_coinsFor_4 : decode cX11_coinsFor 4 = .ok (.aload_n 0, 1) := by decide +kernel
theorem dX11_coinsFor_5 : decode cX11_coinsFor 5 = .ok (.aload_n 0, 1) := by decide +kernel
theorem dX11_coinsFor_6 : decode cX11_coinsFor 6 = .ok (.getfield 166, 3) := by decide +kernel
theorem dX11_coinsFor_9 : decode cX11_coinsFor 9 = .ok (.iload_n 1, 1) := by decide +kernel
theorem dX11_coinsFor_10 : decode cX11_coinsFor 10 = .ok (.bipush 7, 2) := by decide +kernel
theorem dX11_coinsFor_12 : decode cX11_coinsFor 12 = .ok (.invokevirtual 298, 3) := by decide +kernel
theorem dX11_coinsFor_15 : decode cX11_coinsFor 15 = .ok (.istore_n 2, 1) := by decide +kernel
theorem dX11_coinsFor_16 : decode cX11_coinsFor 16 = .ok (.iload_n 2, 1) := by decide +kernel
theorem dX11_coinsFor_17 : decode cX11_coinsFor 17 = .ok (.ifCond .eq 9, 3) := by decide +kernel
theorem dX11_coinsFor_20 : decode cX11_coinsFor 20 = .ok (.aload_n 0, 1) := by decide +kernel
theorem dX11_coinsFor_21 : decode cX11_coinsFor 21 = .ok (.iload_n 2, 1) := by decide +kernel
theorem dX11_coinsFor_22 : decode cX11_coinsFor 22 = .ok (.invokevirtual 156, 3) := by decide +kernel
theorem dX11_coinsFor_25 : decode cX11_coinsFor 25 = .ok (.ireturn, 1) := by decide +kernel
theorem dX11_coinsFor_26 : decode cX11_coinsFor 26 = .ok (.bipush (-2), 2) := by decide +kernel
theorem dX11_coinsFor_28 : decode cX11_coinsFor 28 = .ok (.istore_n 3, 1) := by decide +kernel
theorem dX11_coinsFor_29 : decode cX11_coinsFor 29 = .ok (.iconst 0, 1) := by decide +kernel
theorem dX11_coinsFor_30 : decode cX11_coinsFor 30 = .ok (.istore 4, 2) := by decide +kernel
theorem dX11_coinsFor_32 : decode cX11_coinsFor 32 = .ok (.iload 4, 2) := by decide +kernel
theorem dX11_coinsFor_34 : decode cX11_coinsFor 34 = .ok (.aload_n 0, 1) := by decide +kernel
theorem dX11_coinsFor_35 : decode cX11_coinsFor 35 = .ok (.invokevirtual 271, 3) := by decide +kernel
theorem dX11_coinsFor_38 : decode cX11_coinsFor 38 = .ok (.if_icmp .gt 52, 3) := by decide +kernel
theorem dX11_coinsFor_41 : decode cX11_coinsFor 41 = .ok (.iload 4, 2) := by decide +kernel
theorem dX11_coinsFor_43 : decode cX11_coinsFor 43 = .ok (.aload_n 0, 1) := by decide +kernel
theorem dX11_coinsFor_44 : decode cX11_coinsFor 44 = .ok (.getfield 26, 3) := by decide +kernel
theorem dX11_coinsFor_47 : decode cX11_coinsFor 47 = .ok (.bipush 19, 2) := by decide +kernel
theorem dX11_coinsFor_49 : decode cX11_coinsFor 49 = .ok (.iaload, 1) := by decide +kernel
theorem dX11_coinsFor_50 : decode cX11_coinsFor 50 = .ok (.iand, 1) := by decide +kernel
theorem dX11_coinsFor_51 : decode cX11_coinsFor 51 = .ok (.ifCond .ne 33, 3) := by decide +kernel
theorem dX11_coinsFor_54 : decode cX11_coinsFor 54 = .ok (.iload 4, 2) := by decide +kernel
theorem dX11_coinsFor_56 : decode cX11_coinsFor 56 = .ok (.invokestatic 295, 3) := by decide +kernel
theorem dX11_coinsFor_59 : decode cX11_coinsFor 59 = .ok (.iload_n 1, 1) := by decide +kernel
theorem dX11_coinsFor_60 : decode cX11_coinsFor 60 = .ok (.if_icmp .ne 24, 3) := by decide +kernel
theorem dX11_coinsFor_63 : decode cX11_coinsFor 63 = .ok (.iload_n 3, 1) := by decide +kernel
theorem dX11_coinsFor_64 : decode cX11_coinsFor 64 = .ok (.ifCond .lt 13, 3) := by decide +kernel
theorem dX11_coinsFor_67 : decode cX11_coinsFor 67 = .ok (.aload_n 0, 1) := by decide +kernel
theorem dX11_coinsFor_68 : decode cX11_coinsFor 68 = .ok (.iload 4, 2) := by decide +kernel
theorem dX11_coinsFor_70 : decode cX11_coinsFor 70 = .ok (.invokevirtual 314, 3) := by decide +kernel
theorem dX11_coinsFor_73 : decode cX11_coinsFor 73 = .ok (.iload_n 3, 1) := by decide +kernel
theorem dX11_coinsFor_74 : decode cX11_coinsFor 74 = .ok (.if_icmp .ge 10, 3) := by decide +kernel
theorem dX11_coinsFor_77 : decode cX11_coinsFor 77 = .ok (.aload_n 0, 1) := by decide +kernel
theorem dX11_coinsFor_78 : decode cX11_coinsFor 78 = .ok (.iload 4, 2) := by decide +kernel
theorem dX11_coinsFor_80 : decode cX11_coinsFor 80 = .ok (.invokevirtual 314, 3) := by decide +kernel
theorem dX11_coinsFor_83 : decode cX11_coinsFor 83 = .ok (.istore_n 3, 1) := by decide +kernel
theorem dX11_coinsFor_84 : decode cX11_coinsFor 84 = .ok (.iinc 4 1, 3) := by decide +kernel
theorem dX11_coinsFor_87 : decode cX11_coinsFor 87 = .ok (.goto (-55), 3) := by decide +kernel
theorem dX11_coinsFor_90 : decode cX11_coinsFor 90 = .ok (.iload_n 3, 1) := by decide +kernel
theorem dX11_coinsFor_91 : decode cX11_coinsFor 91 = .ok (.ireturn, 1) := by decide +kernel
theorem dX11_didWrong_0 : decode cX11_didWrong 0 = .ok (.iconst 0, 1) := by decide +kernel
theorem dX11_didWrong_1 : decode cX11_didWrong 1 = .ok (.istore_n 3, 1) := by decide +kernel
theorem dX11_didWrong_2 : decode cX11_didWrong 2 = .ok (.iload_n 3, 1) := by decide +kernel
theorem dX11_didWrong_3 : decode cX11_didWrong 3 = .ok (.aload_n 0, 1) := by decide +kernel
theorem dX11_didWrong_4 : decode cX11_didWrong 4 = .ok (.getfield 20, 3) := by decide +kernel
theorem dX11_didWrong_7 : decode cX11_didWrong 7 = .ok (.iconst 4, 1) := by decide +kernel
theorem dX11_didWrong_8 : decode cX11_didWrong 8 = .ok (.iaload, 1) := by decide +kernel
theorem dX11_didWrong_9 : decode cX11_didWrong 9 = .ok (.if_icmp .ge 37, 3) := by decide +kernel
theorem dX11_didWrong_12 : decode cX11_didWrong 12 = .ok (.aload_n 0, 1) := by decide +kernel
theorem dX11_didWrong_13 : decode cX11_didWrong 13 = .ok (.iload_n 3, 1) := by decide +kernel
theorem dX11_didWrong_14 : decode cX11_didWrong 14 = .ok (.invokevirtual 262, 3) := by decide +kernel
theorem dX11_didWrong_17 : decode cX11_didWrong 17 = .ok (.ifCond .ne 23, 3) := by decide +kernel
theorem dX11_didWrong_20 : decode cX11_didWrong 20 = .ok (.aload_n 0, 1) := by decide +kernel
theorem dX11_didWrong_21 : decode cX11_didWrong 21 = .ok (.iload_n 3, 1) := by decide +kernel
theorem dX11_didWrong_22 : decode cX11_didWrong 22 = .ok (.invokevirtual 237, 3) := by decide +kernel
theorem dX11_didWrong_25 : decode cX11_didWrong 25 = .ok (.iload_n 1, 1) := by decide +kernel
theorem dX11_didWrong_26 : decode cX11_didWrong 26 = .ok (.if_icmp .ne 14, 3) := by decide +kernel
theorem dX11_didWrong_29 : decode cX11_didWrong 29 = .ok (.aload_n 0, 1) := by decide +kernel
theorem dX11_didWrong_30 : decode cX11_didWrong 30 = .ok (.iload_n 3, 1) := by decide +kernel
theorem dX11_didWrong_31 : decode cX11_didWrong 31 = .ok (.invokevirtual 243, 3) := by decide +kernel
theorem dX11_didWrong_34 : decode cX11_didWrong 34 = .ok (.iload_n 2, 1) := by decide +kernel
theorem dX11_didWrong_35 : decode cX11_didWrong 35 = .ok (.if_icmp .ne 5, 3) := by decide +kernel
theorem dX11_didWrong_38 : decode cX11_didWrong 38 = .ok (.iconst 1, 1) := by decide +kernel
theorem dX11_didWrong_39 : decode cX11_didWrong 39 = .ok (.ireturn, 1) := by decide +kernel
theorem dX11_didWrong_40 : decode cX11_didWrong 40 = .ok (.iinc 3 1, 3) := by decide +kernel
theorem dX11_didWrong_43 : decode cX11_didWrong 43 = .ok (.goto (-41), 3) := by decide +kernel
theorem dX11_didWrong_46 : decode cX11_didWrong 46 = .ok (.iconst 0, 1) := by decide +kernel
theorem dX11_didWrong_47 : decode cX11_didWrong 47 = .ok (.ireturn, 1) := by decide +kernel
theorem dX11_ring_0 : decode cX11_ring 0 = .ok (.aload_n 0, 1) := by decide +kernel
theorem dX11_ring_1 : decode cX11_ring 1 = .ok (.invokevirtual 153, 3) := by decide +kernel
theorem dX11_ring_4 : decode cX11_ring 4 = .ok (.aload_n 0, 1) := by decide +kernel
theorem dX11_ring_5 : decode cX11_ring 5 = .ok (.iload_n 1, 1) := by decide +kernel
theorem dX11_ring_6 : decode cX11_ring 6 = .ok (.invokevirtual 277, 3) := by decide +kernel
theorem dX11_ring_9 : decode cX11_ring 9 = .ok (.ifCond .eq 11, 3) := by decide +kernel
theorem dX11_ring_12 : decode cX11_ring 12 = .ok (.aload_n 0, 1) := by decide +kernel
theorem dX11_ring_13 : decode cX11_ring 13 = .ok (.iload_n 1, 1) := by decide +kernel
theorem dX11_ring_14 : decode cX11_ring 14 = .ok (.invokevirtual 331, 3) := by decide +kernel
theorem dX11_ring_17 : decode cX11_ring 17 = .ok (.goto 8, 3) := by decide +kernel
theorem dX11_ring_20 : decode cX11_ring 20 = .ok (.aload_n 0, 1) := by decide +kernel
theorem dX11_ring_21 : decode cX11_ring 21 = .ok (.iconst 1, 1) := by decide +kernel
theorem dX11_ring_22 : decode cX11_ring 22 = .ok (.invokevirtual 156, 3) := by decide +kernel
theorem dX11_ring_25 : decode cX11_ring 25 = .ok (.ireturn, 1) := by decide +kernel
theorem dX11_doesLead_0 : decode cX11_doesLead 0 = .ok (.iload_n 3, 1) := by decide +kernel
theorem dX11_doesLead_1 : decode cX11_doesLead 1 = .ok (.ifCond .ne 14, 3) := by decide +kernel
theorem dX11_doesLead_4 : decode cX11_doesLead 4 = .ok (.iload_n 1, 1) := by decide +kernel
theorem dX11_doesLead_5 : decode cX11_doesLead 5 = .ok (.iload_n 2, 1) := by decide +kernel
theorem dX11_doesLead_6 : decode cX11_doesLead 6 = .ok (.if_icmp .ne 7, 3) := by decide +kernel
theorem dX11_doesLead_9 : decode cX11_doesLead 9 = .ok (.iconst 1, 1) := by decide +kernel
theorem dX11_doesLead_10 : decode cX11_doesLead 10 = .ok (.goto 4, 3) := by decide +kernel
theorem dX11_doesLead_13 : decode cX11_doesLead 13 = .ok (.iconst 0, 1) := by decide +kernel
theorem dX11_doesLead_14 : decode cX11_doesLead 14 = .ok (.ireturn, 1) := by decide +kernel
theorem dX11_doesLead_15 : decode cX11_doesLead 15 = .ok (.iconst 0, 1) := by decide +kernel
theorem dX11_doesLead_16 : decode cX11_doesLead 16 = .ok (.istore 4, 2) := by decide +kernel
theorem dX11_doesLead_18 : decode cX11_doesLead 18 = .ok (.iload 4, 2) := by decide +kernel
theorem dX11_doesLead_20 : decode cX11_doesLead 20 = .ok (.aload_n 0, 1) := by decide +kernel
theorem dX11_doesLead_21 : decode cX11_doesLead 21 = .ok (.getfield 20, 3) := by decide +kernel
theorem dX11_doesLead_24 : decode cX11_doesLead 24 = .ok (.iconst 3, 1) := by decide +kernel
theorem dX11_doesLead_25 : decode cX11_doesLead 25 = .ok (.iaload, 1) := by decide +kernel
theorem dX11_doesLead_26 : decode cX11_doesLead 26 = .ok (.if_icmp .ge 34, 3) := by decide +kernel
theorem dX11_doesLead_29 : decode cX11_doesLead 29 = .ok (.aload_n 0, 1) := by decide +kernel
theorem dX11_doesLead_30 : decode cX11_doesLead 30 = .ok (.iload_n 1, 1) := by decide +kernel
theorem dX11_doesLead_31 : decode cX11_doesLead 31 = .ok (.iload 4, 2) := by decide +kernel
theorem dX11_doesLead_33 : decode cX11_doesLead 33 = .ok (.invokevirtual 334, 3) := by decide +kernel
theorem dX11_doesLead_36 : decode cX11_doesLead 36 = .ok (.ifCond .eq 18, 3) := by decide +kernel
theorem dX11_doesLead_39 : decode cX11_doesLead 39 = .ok (.aload_n 0, 1) := by decide +kernel
theorem dX11_doesLead_40 : decode cX11_doesLead 40 = .ok (.iload 4, 2) := by decide +kernel
theorem dX11_doesLead_42 : decode cX11_doesLead 42 = .ok (.iload_n 2, 1) := by decide +kernel
theorem dX11_doesLead_43 : decode cX11_doesLead 43 = .ok (.iload_n 3, 1) := by decide +kernel
theorem dX11_doesLead_44 : decode cX11_doesLead 44 = .ok (.iconst 1, 1) := by decide +kernel
theorem dX11_doesLead_45 : decode cX11_doesLead 45 = .ok (.isub, 1) := by decide +kernel
theorem dX11_doesLead_46 : decode cX11_doesLead 46 = .ok (.invokevirtual 337, 3) := by decide +kernel
theorem dX11_doesLead_49 : decode cX11_doesLead 49 = .ok (.ifCond .eq 5, 3) := by decide +kernel
theorem dX11_doesLead_52 : decode cX11_doesLead 52 = .ok (.iconst 1, 1) := by decide +kernel
theorem dX11_doesLead_53 : decode cX11_doesLead 53 = .ok (.ireturn, 1) := by decide +kernel
theorem dX11_doesLead_54 : decode cX11_doesLead 54 = .ok (.iinc 4 1, 3) := by decide +kernel
theorem dX11_doesLead_57 : decode cX11_doesLead 57 = .ok (.goto (-39), 3) := by decide +kernel
theorem dX11_doesLead_60 : decode cX11_doesLead 60 = .ok (.iconst 0, 1) := by decide +kernel
theorem dX11_doesLead_61 : decode cX11_doesLead 61 = .ok (.ireturn, 1) := by decide +kernel
theorem dX11_ringOf_0 : decode cX11_ringOf 0 = .ok (.iconst 2, 1) := by decide +kernel
theorem dX11_ringOf_1 : decode cX11_ringOf 1 = .ok (.istore_n 2, 1) := by decide +kernel
theorem dX11_ringOf_2 : decode cX11_ringOf 2 = .ok (.iload_n 2, 1) := by decide +kernel
theorem dX11_ringOf_3 : decode cX11_ringOf 3 = .ok (.bipush 6, 2) := by decide +kernel
theorem dX11_ringOf_5 : decode cX11_ringOf 5 = .ok (.if_icmp .gt 21, 3) := by decide +kernel
theorem dX11_ringOf_8 : decode cX11_ringOf 8 = .ok (.aload_n 0, 1) := by decide +kernel
theorem dX11_ringOf_9 : decode cX11_ringOf 9 = .ok (.iload_n 1, 1) := by decide +kernel
theorem dX11_ringOf_10 : decode cX11_ringOf 10 = .ok (.iload_n 1, 1) := by decide +kernel
theorem dX11_ringOf_11 : decode cX11_ringOf 11 = .ok (.iload_n 2, 1) := by decide +kernel
theorem dX11_ringOf_12 : decode cX11_ringOf 12 = .ok (.invokevirtual 337, 3) := by decide +kernel
theorem dX11_ringOf_15 : decode cX11_ringOf 15 = .ok (.ifCond .eq 5, 3) := by decide +kernel
theorem dX11_ringOf_18 : decode cX11_ringOf 18 = .ok (.iload_n 2, 1) := by decide +kernel
theorem dX11_ringOf_19 : decode cX11_ringOf 19 = .ok (.ireturn, 1) := by decide +kernel
theorem dX11_ringOf_20 : decode cX11_ringOf 20 = .ok (.iinc 2 1, 3) := by decide +kernel
theorem dX11_ringOf_23 : decode cX11_ringOf 23 = .ok (.goto (-21), 3) := by decide +kernel
theorem dX11_ringOf_26 : decode cX11_ringOf 26 = .ok (.bipush (-2), 2) := by decide +kernel
theorem dX11_ringOf_28 : decode cX11_ringOf 28 = .ok (.ireturn, 1) := by decide +kernel
theorem dX11_ringAt_0 : decode cX11_ringAt 0 = .ok (.aload_n 0, 1) := by decide +kernel
theorem dX11_ringAt_1 : decode cX11_ringAt 1 = .ok (.invokevirtual 153, 3) := by decide +kernel
theorem dX11_ringAt_4 : decode cX11_ringAt 4 = .ok (.aload_n 0, 1) := by decide +kernel
theorem dX11_ringAt_5 : decode cX11_ringAt 5 = .ok (.iload_n 1, 1) := by decide +kernel
theorem dX11_ringAt_6 : decode cX11_ringAt 6 = .ok (.invokevirtual 277, 3) := by decide +kernel
theorem dX11_ringAt_9 : decode cX11_ringAt 9 = .ok (.ifCond .ne 9, 3) := by decide +kernel
theorem dX11_ringAt_12 : decode cX11_ringAt 12 = .ok (.aload_n 0, 1) := by decide +kernel
theorem dX11_ringAt_13 : decode cX11_ringAt 13 = .ok (.iconst 1, 1) := by decide +kernel
theorem dX11_ringAt_14 : decode cX11_ringAt 14 = .ok (.invokevirtual 156, 3) := by decide +kernel
theorem dX11_ringAt_17 : decode cX11_ringAt 17 = .ok (.ireturn, 1) := by decide +kernel
theorem dX11_ringAt_18 : decode cX11_ringAt 18 = .ok (.aload_n 0, 1) := by decide +kernel
theorem dX11_ringAt_19 : decode cX11_ringAt 19 = .ok (.iload_n 1, 1) := by decide +kernel
theorem dX11_ringAt_20 : decode cX11_ringAt 20 = .ok (.invokevirtual 331, 3) := by decide +kernel
theorem dX11_ringAt_23 : decode cX11_ringAt 23 = .ok (.istore_n 3, 1) := by decide +kernel
theorem dX11_ringAt_24 : decode cX11_ringAt 24 = .ok (.iload_n 2, 1) := by decide +kernel
theorem dX11_ringAt_25 : decode cX11_ringAt 25 = .ok (.iconst 0, 1) := by decide +kernel
theorem dX11_ringAt_26 : decode cX11_ringAt 26 = .ok (.iload_n 3, 1) := by decide +kernel
theorem dX11_ringAt_27 : decode cX11_ringAt 27 = .ok (.iconst 1, 1) := by decide +kernel
theorem dX11_ringAt_28 : decode cX11_ringAt 28 = .ok (.isub, 1) := by decide +kernel
theorem dX11_ringAt_29 : decode cX11_ringAt 29 = .ok (.invokestatic 138, 3) := by decide +kernel
theorem dX11_ringAt_32 : decode cX11_ringAt 32 = .ok (.ifCond .ne 9, 3) := by decide +kernel
theorem dX11_ringAt_35 : decode cX11_ringAt 35 = .ok (.aload_n 0, 1) := by decide +kernel
theorem dX11_ringAt_36 : decode cX11_ringAt 36 = .ok (.iconst 1, 1) := by decide +kernel
theorem dX11_ringAt_37 : decode cX11_ringAt 37 = .ok (.invokevirtual 156, 3) := by decide +kernel
theorem dX11_ringAt_40 : decode cX11_ringAt 40 = .ok (.ireturn, 1) := by decide +kernel
theorem dX11_ringAt_41 : decode cX11_ringAt 41 = .ok (.iload_n 1, 1) := by decide +kernel
theorem dX11_ringAt_42 : decode cX11_ringAt 42 = .ok (.istore 4, 2) := by decide +kernel
theorem dX11_ringAt_44 : decode cX11_ringAt 44 = .ok (.iconst 1, 1) := by decide +kernel
theorem dX11_ringAt_45 : decode cX11_ringAt 45 = .ok (.istore 5, 2) := by decide +kernel
theorem dX11_ringAt_47 : decode cX11_ringAt 47 = .ok (.iload 5, 2) := by decide +kernel
theorem dX11_ringAt_49 : decode cX11_ringAt 49 = .ok (.iload_n 2, 1) := by decide +kernel
theorem dX11_ringAt_50 : decode cX11_ringAt 50 = .ok (.if_icmp .gt 47, 3) := by decide +kernel
theorem dX11_ringAt_53 : decode cX11_ringAt 53 = .ok (.iconst 0, 1) := by decide +kernel
theorem dX11_ringAt_54 : decode cX11_ringAt 54 = .ok (.istore 6, 2) := by decide +kernel
theorem dX11_ringAt_56 : decode cX11_ringAt 56 = .ok (.aload_n 0, 1) := by decide +kernel
theorem dX11_ringAt_57 : decode cX11_ringAt 57 = .ok (.iload 4, 2) := by decide +kernel
theorem dX11_ringAt_59 : decode cX11_ringAt 59 = .ok (.iload 6, 2) := by decide +kernel
theorem dX11_ringAt_61 : decode cX11_ringAt 61 = .ok (.invokevirtual 334, 3) := by decide +kernel
theorem dX11_ringAt_64 : decode cX11_ringAt 64 = .ok (.ifCond .eq 17, 3) := by decide +kernel
theorem dX11_ringAt_67 : decode cX11_ringAt 67 = .ok (.aload_n 0, 1) := by decide +kernel
theorem dX11_ringAt_68 : decode cX11_ringAt 68 = .ok (.iload 6, 2) := by decide +kernel
theorem dX11_ringAt_70 : decode cX11_ringAt 70 = .ok (.iload_n 1, 1) := by decide +kernel
theorem dX11_ringAt_71 : decode cX11_ringAt 71 = .ok (.iload_n 3, 1) := by decide +kernel
theorem dX11_ringAt_72 : decode cX11_ringAt 72 = .ok (.iload 5, 2) := by decide +kernel
theorem dX11_ringAt_74 : decode cX11_ringAt 74 = .ok (.isub, 1) := by decide +kernel
theorem dX11_ringAt_75 : decode cX11_ringAt 75 = .ok (.invokevirtual 337, 3) := by decide +kernel
theorem dX11_ringAt_78 : decode cX11_ringAt 78 = .ok (.ifCond .ne 9, 3) := by decide +kernel
theorem dX11_ringAt_81 : decode cX11_ringAt 81 = .ok (.iinc 6 1, 3) := by decide +kernel
theorem dX11_ringAt_84 : decode cX11_ringAt 84 = .ok (.goto (-28), 3) := by decide +kernel
theorem dX11_ringAt_87 : decode cX11_ringAt 87 = .ok (.iload 6, 2) := by decide +kernel
theorem dX11_ringAt_89 : decode cX11_ringAt 89 = .ok (.istore 4, 2) := by decide +kernel
theorem dX11_ringAt_91 : decode cX11_ringAt 91 = .ok (.iinc 5 1, 3) := by decide +kernel
theorem dX11_ringAt_94 : decode cX11_ringAt 94 = .ok (.goto (-47), 3) := by decide +kernel
theorem dX11_ringAt_97 : decode cX11_ringAt 97 = .ok (.iload 4, 2) := by decide +kernel
theorem dX11_ringAt_99 : decode cX11_ringAt 99 = .ok (.ireturn, 1) := by decide +kernel
theorem dX11_payable_0 : decode cX11_payable 0 = .ok (.aload_n 0, 1) := by decide +kernel
theorem dX11_payable_1 : decode cX11_payable 1 = .ok (.invokevirtual 153, 3) := by decide +kernel
theorem dX11_payable_4 : decode cX11_payable 4 = .ok (.aload_n 0, 1) := by decide +kernel
theorem dX11_payable_5 : decode cX11_payable 5 = .ok (.iload_n 1, 1) := by decide +kernel
theorem dX11_payable_6 : decode cX11_payable 6 = .ok (.invokevirtual 277, 3) := by decide +kernel
theorem dX11_payable_9 : decode cX11_payable 9 = .ok (.ifCond .ne 9, 3) := by decide +kernel
theorem dX11_payable_12 : decode cX11_payable 12 = .ok (.aload_n 0, 1) := by decide +kernel
theorem dX11_payable_13 : decode cX11_payable 13 = .ok (.iconst 1, 1) := by decide +kernel
theorem dX11_payable_14 : decode cX11_payable 14 = .ok (.invokevirtual 156, 3) := by decide +kernel
theorem dX11_payable_17 : decode cX11_payable 17 = .ok (.ireturn, 1) := by decide +kernel
theorem dX11_payable_18 : decode cX11_payable 18 = .ok (.aload_n 0, 1) := by decide +kernel
theorem dX11_payable_19 : decode cX11_payable 19 = .ok (.iload_n 1, 1) := by decide +kernel
theorem dX11_payable_20 : decode cX11_payable 20 = .ok (.invokevirtual 283, 3) := by decide +kernel
theorem dX11_payable_23 : decode cX11_payable 23 = .ok (.istore_n 2, 1) := by decide +kernel
theorem dX11_payable_24 : decode cX11_payable 24 = .ok (.iconst 0, 1) := by decide +kernel
theorem dX11_payable_25 : decode cX11_payable 25 = .ok (.istore_n 3, 1) := by decide +kernel
theorem dX11_payable_26 : decode cX11_payable 26 = .ok (.iconst 0, 1) := by decide +kernel
theorem dX11_payable_27 : decode cX11_payable 27 = .ok (.istore 4, 2) := by decide +kernel
theorem dX11_payable_29 : decode cX11_payable 29 = .ok (.iload 4, 2) := by decide +kernel
theorem dX11_payable_31 : decode cX11_payable 31 = .ok (.iload_n 2, 1) := by decide +kernel
theorem dX11_payable_32 : decode cX11_payable 32 = .ok (.if_icmp .gt 78, 3) := by decide +kernel
theorem dX11_payable_35 : decode cX11_payable 35 = .ok (.iload 4, 2) := by decide +kernel
theorem dX11_payable_37 : decode cX11_payable 37 = .ok (.iload_n 2, 1) := by decide +kernel
theorem dX11_payable_38 : decode cX11_payable 38 = .ok (.iconst (-1), 1) := by decide +kernel
theorem dX11_payable_39 : decode cX11_payable 39 = .ok (.ixor, 1) := by decide +kernel
theorem dX11_payable_40 : decode cX11_payable 40 = .ok (.iand, 1) := by decide +kernel
theorem dX11_payable_41 : decode cX11_payable 41 = .ok (.ifCond .ne 63, 3) := by decide +kernel
theorem dX11_payable_44 : decode cX11_payable 44 = .ok (.aload_n 0, 1) := by decide +kernel
theorem dX11_payable_45 : decode cX11_payable 45 = .ok (.iload 4, 2) := by decide +kernel
theorem dX11_payable_47 : decode cX11_payable 47 = .ok (.invokevirtual 314, 3) := by decide +kernel
theorem dX11_payable_50 : decode cX11_payable 50 = .ok (.aload_n 0, 1) := by decide +kernel
theorem dX11_payable_51 : decode cX11_payable 51 = .ok (.getfield 26, 3) := by decide +kernel
theorem dX11_payable_54 : decode cX11_payable 54 = .ok (.bipush 13, 2) := by decide +kernel
theorem dX11_payable_56 : decode cX11_payable 56 = .ok (.iload_n 1, 1) := by decide +kernel
theorem dX11_payable_57 : decode cX11_payable 57 = .ok (.iadd, 1) := by decide +kernel
theorem dX11_payable_58 : decode cX11_payable 58 = .ok (.iaload, 1) := by decide +kernel
theorem dX11_payable_59 : decode cX11_payable 59 = .ok (.if_icmp .le 6, 3) := by decide +kernel
theorem dX11_payable_62 : decode cX11_payable 62 = .ok (.goto 42, 3) := by decide +kernel
theorem dX11_payable_65 : decode cX11_payable 65 = .ok (.iload 4, 2) := by decide +kernel
theorem dX11_payable_67 : decode cX11_payable 67 = .ok (.invokestatic 295, 3) := by decide +kernel
theorem dX11_payable_70 : decode cX11_payable 70 = .ok (.iload_n 3, 1) := by decide +kernel
theorem dX11_payable_71 : decode cX11_payable 71 = .ok (.invokestatic 295, 3) := by decide +kernel
theorem dX11_payable_74 : decode cX11_payable 74 = .ok (.isub, 1) := by decide +kernel
theorem dX11_payable_75 : decode cX11_payable 75 = .ok (.istore 5, 2) := by decide +kernel
theorem dX11_payable_77 : decode cX11_payable 77 = .ok (.iload 5, 2) := by decide +kernel
theorem dX11_payable_79 : decode cX11_payable 79 = .ok (.ifCond .gt 22, 3) := by decide +kernel
theorem dX11_payable_82 : decode cX11_payable 82 = .ok (.iload 5, 2) := by decide +kernel
theorem dX11_payable_84 : decode cX11_payable 84 = .ok (.ifCond .ne 20, 3) := by decide +kernel
theorem dX11_payable_87 : decode cX11_payable 87 = .ok (.aload_n 0, 1) := by decide +kernel
theorem dX11_payable_88 : decode cX11_payable 88 = .ok (.iload 4, 2) := by decide +kernel
theorem dX11_payable_90 : decode cX11_payable 90 = .ok (.invokevirtual 314, 3) := by decide +kernel
theorem dX11_payable_93 : decode cX11_payable 93 = .ok (.aload_n 0, 1) := by decide +kernel
theorem dX11_payable_94 : decode cX11_payable 94 = .ok (.iload_n 3, 1) := by decide +kernel
theorem dX11_payable_95 : decode cX11_payable 95 = .ok (.invokevirtual 314, 3) := by decide +kernel
theorem dX11_payable_98 : decode cX11_payable 98 = .ok (.if_icmp .ge 6, 3) := by decide +kernel
theorem dX11_payable_101 : decode cX11_payable 101 = .ok (.iload 4, 2) := by decide +kernel
theorem dX11_payable_103 : decode cX11_payable 103 = .ok (.istore_n 3, 1) := by decide +kernel
theorem dX11_payable_104 : decode cX11_payable 104 = .ok (.iinc 4 1, 3) := by decide +kernel
theorem dX11_payable_107 : decode cX11_payable 107 = .ok (.goto (-78), 3) := by decide +kernel
theorem dX11_payable_110 : decode cX11_payable 110 = .ok (.iload_n 3, 1) := by decide +kernel
theorem dX11_payable_111 : decode cX11_payable 111 = .ok (.ireturn, 1) := by decide +kernel
theorem dX11_bestMeeting_0 : decode cX11_bestMeeting 0 = .ok (.aload_n 0, 1) := by decide +kernel
theorem dX11_bestMeeting_1 : decode cX11_bestMeeting 1 = .ok (.invokevirtual 153, 3) := by decide +kernel
theorem dX11_bestMeeting_4 : decode cX11_bestMeeting 4 = .ok (.aload_n 0, 1) := by decide +kernel
theorem dX11_bestMeeting_5 : decode cX11_bestMeeting 5 = .ok (.getfield 166, 3) := by decide +kernel
theorem dX11_bestMeeting_8 : decode cX11_bestMeeting 8 = .ok (.ifCond .ne 9, 3) := by decide +kernel
theorem dX11_bestMeeting_11 : decode cX11_bestMeeting 11 = .ok (.aload_n 0, 1) := by decide +kernel
theorem dX11_bestMeeting_12 : decode cX11_bestMeeting 12 = .ok (.iconst 1, 1) := by decide +kernel
theorem dX11_bestMeeting_13 : decode cX11_bestMeeting 13 = .ok (.invokevirtual 156, 3) := by decide +kernel
theorem dX11_bestMeeting_16 : decode cX11_bestMeeting 16 = .ok (.ireturn, 1) := by decide +kernel
theorem dX11_bestMeeting_17 : decode cX11_bestMeeting 17 = .ok (.bipush (-2), 2) := by decide +kernel
theorem dX11_bestMeeting_19 : decode cX11_bestMeeting 19 = .ok (.istore_n 1, 1) := by decide +kernel
theorem dX11_bestMeeting_20 : decode cX11_bestMeeting 20 = .ok (.iconst (-1), 1) := by decide +kernel
theorem dX11_bestMeeting_21 : decode cX11_bestMeeting 21 = .ok (.istore_n 2, 1) := by decide +kernel
theorem dX11_bestMeeting_22 : decode cX11_bestMeeting 22 = .ok (.iconst 0, 1) := by decide +kernel
theorem dX11_bestMeeting_23 : decode cX11_bestMeeting 23 = .ok (.istore_n 3, 1) := by decide +kernel
theorem dX11_bestMeeting_24 : decode cX11_bestMeeting 24 = .ok (.iload_n 3, 1) := by decide +kernel
theorem dX11_bestMeeting_25 : decode cX11_bestMeeting 25 = .ok (.aload_n 0, 1) := by decide +kernel
theorem dX11_bestMeeting_26 : decode cX11_bestMeeting 26 = .ok (.getfield 20, 3) := by decide +kernel
theorem dX11_bestMeeting_29 : decode cX11_bestMeeting 29 = .ok (.iconst 4, 1) := by decide +kernel
theorem dX11_bestMeeting_30 : decode cX11_bestMeeting 30 = .ok (.iaload, 1) := by decide +kernel
theorem dX11_bestMeeting_31 : decode cX11_bestMeeting 31 = .ok (.if_icmp .ge 87, 3) := by decide +kernel
theorem dX11_bestMeeting_34 : decode cX11_bestMeeting 34 = .ok (.iload_n 3, 1) := by decide +kernel
theorem dX11_bestMeeting_35 : decode cX11_bestMeeting 35 = .ok (.iconst 1, 1) := by decide +kernel
theorem dX11_bestMeeting_36 : decode cX11_bestMeeting 36 = .ok (.iadd, 1) := by decide +kernel
theorem dX11_bestMeeting_37 : decode cX11_bestMeeting 37 = .ok (.istore 4, 2) := by decide +kernel
theorem dX11_bestMeeting_39 : decode cX11_bestMeeting 39 = .ok (.iload 4, 2) := by decide +kernel
theorem dX11_bestMeeting_41 : decode cX11_bestMeeting 41 = .ok (.aload_n 0, 1) := by decide +kernel
theorem dX11_bestMeeting_42 : decode cX11_bestMeeting 42 = .ok (.getfield 20, 3) := by decide +kernel
theorem dX11_bestMeeting_45 : decode cX11_bestMeeting 45 = .ok (.iconst 4, 1) := by decide +kernel
theorem dX11_bestMeeting_46 : decode cX11_bestMeeting 46 = .ok (.iaload, 1) := by decide +kernel
theorem dX11_bestMeeting_47 : decode cX11_bestMeeting 47 = .ok (.if_icmp .ge 65, 3) := by decide +kernel
theorem dX11_bestMeeting_50 : decode cX11_bestMeeting 50 = .ok (.aload_n 0, 1) := by decide +kernel
theorem dX11_bestMeeting_51 : decode cX11_bestMeeting 51 = .ok (.iload_n 3, 1) := by decide +kernel
theorem dX11_bestMeeting_52 : decode cX11_bestMeeting 52 = .ok (.iload 4, 2) := by decide +kernel
theorem dX11_bestMeeting_54 : decode cX11_bestMeeting 54 = .ok (.invokevirtual 305, 3) := by decide +kernel
theorem dX11_bestMeeting_57 : decode cX11_bestMeeting 57 = .ok (.ifCond .eq 26, 3) := by decide +kernel
theorem dX11_bestMeeting_60 : decode cX11_bestMeeting 60 = .ok (.aload_n 0, 1) := by decide +kernel
theorem dX11_bestMeeting_61 : decode cX11_bestMeeting 61 = .ok (.iload_n 3, 1) := by decide +kernel
theorem dX11_bestMeeting_62 : decode cX11_bestMeeting 62 = .ok (.invokevirtual 274, 3) := by decide +kernel
theorem dX11_bestMeeting_65 : decode cX11_bestMeeting 65 = .ok (.aload_n 0, 1) := by decide +kernel
theorem dX11_bestMeeting_66 : decode cX11_bestMeeting 66 = .ok (.iload 4, 2) := by decide +kernel
theorem dX11_bestMeeting_68 : decode cX11_bestMeeting 68 = .ok (.invokevirtual 274, 3) := by decide +kernel
theorem dX11_bestMeeting_71 : decode cX11_bestMeeting 71 = .ok (.iadd, 1) := by decide +kernel
theorem dX11_bestMeeting_72 : decode cX11_bestMeeting 72 = .ok (.aload_n 0, 1) := by decide +kernel
theorem dX11_bestMeeting_73 : decode cX11_bestMeeting 73 = .ok (.iload_n 3, 1) := by decide +kernel
theorem dX11_bestMeeting_74 : decode cX11_bestMeeting 74 = .ok (.iload 4, 2) := by decide +kernel
theorem dX11_bestMeeting_76 : decode cX11_bestMeeting 76 = .ok (.invokevirtual 311, 3) := by decide +kernel
theorem dX11_bestMeeting_79 : decode cX11_bestMeeting 79 = .ok (.isub, 1) := by decide +kernel
theorem dX11_bestMeeting_80 : decode cX11_bestMeeting 80 = .ok (.goto 4, 3) := by decide +kernel
theorem dX11_bestMeeting_83 : decode cX11_bestMeeting 83 = .ok (.iconst (-1), 1) := by decide +kernel
theorem dX11_bestMeeting_84 : decode cX11_bestMeeting 84 = .ok (.istore 5, 2) := by decide +kernel
theorem dX11_bestMeeting_86 : decode cX11_bestMeeting 86 = .ok (.iload 5, 2) := by decide +kernel
theorem dX11_bestMeeting_88 : decode cX11_bestMeeting 88 = .ok (.iload_n 2, 1) := by decide +kernel
theorem dX11_bestMeeting_89 : decode cX11_bestMeeting 89 = .ok (.if_icmp .gt 6, 3) := by decide +kernel
theorem dX11_bestMeeting_92 : decode cX11_bestMeeting 92 = .ok (.goto 14, 3) := by decide +kernel
theorem dX11_bestMeeting_95 : decode cX11_bestMeeting 95 = .ok (.bipush 10, 2) := by decide +kernel
theorem dX11_bestMeeting_97 : decode cX11_bestMeeting 97 = .ok (.iload_n 3, 1) := by decide +kernel
theorem dX11_bestMeeting_98 : decode cX11_bestMeeting 98 = .ok (.imul, 1) := by decide +kernel
theorem dX11_bestMeeting_99 : decode cX11_bestMeeting 99 = .ok (.iload 4, 2) := by decide +kernel
theorem dX11_bestMeeting_101 : decode cX11_bestMeeting 101 = .ok (.iadd, 1) := by decide +kernel
theorem dX11_bestMeeting_102 : decode cX11_bestMeeting 102 = .ok (.istore_n 1, 1) := by decide +kernel
theorem dX11_bestMeeting_103 : decode cX11_bestMeeting 103 = .ok (.iload 5, 2) := by decide +kernel
theorem dX11_bestMeeting_105 : decode cX11_bestMeeting 105 = .ok (.istore_n 2, 1) := by decide +kernel
theorem dX11_bestMeeting_106 : decode cX11_bestMeeting 106 = .ok (.iinc 4 1, 3) := by decide +kernel
theorem dX11_bestMeeting_109 : decode cX11_bestMeeting 109 = .ok (.goto (-70), 3) := by decide +kernel
theorem dX11_bestMeeting_112 : decode cX11_bestMeeting 112 = .ok (.iinc 3 1, 3) := by decide +kernel
theorem dX11_bestMeeting_115 : decode cX11_bestMeeting 115 = .ok (.goto (-91), 3) := by decide +kernel
theorem dX11_bestMeeting_118 : decode cX11_bestMeeting 118 = .ok (.iload_n 1, 1) := by decide +kernel
theorem dX11_bestMeeting_119 : decode cX11_bestMeeting 119 = .ok (.ireturn, 1) := by decide +kernel
theorem dX11_feud_0 : decode cX11_feud 0 = .ok (.aload_n 0, 1) := by decide +kernel
theorem dX11_feud_1 : decode cX11_feud 1 = .ok (.invokevirtual 153, 3) := by decide +kernel
theorem dX11_feud_4 : decode cX11_feud 4 = .ok (.aload_n 0, 1) := by decide +kernel
theorem dX11_feud_5 : decode cX11_feud 5 = .ok (.iload_n 1, 1) := by decide +kernel
theorem dX11_feud_6 : decode cX11_feud 6 = .ok (.iload_n 2, 1) := by decide +kernel
theorem dX11_feud_7 : decode cX11_feud 7 = .ok (.invokevirtual 289, 3) := by decide +kernel
theorem dX11_feud_10 : decode cX11_feud 10 = .ok (.ifCond .ne 9, 3) := by decide +kernel
theorem dX11_feud_13 : decode cX11_feud 13 = .ok (.aload_n 0, 1) := by decide +kernel
theorem dX11_feud_14 : decode cX11_feud 14 = .ok (.iconst 1, 1) := by decide +kernel
theorem dX11_feud_15 : decode cX11_feud 15 = .ok (.invokevirtual 156, 3) := by decide +kernel
theorem dX11_feud_18 : decode cX11_feud 18 = .ok (.ireturn, 1) := by decide +kernel
theorem dX11_feud_19 : decode cX11_feud 19 = .ok (.iconst 0, 1) := by decide +kernel
theorem dX11_feud_20 : decode cX11_feud 20 = .ok (.istore_n 3, 1) := by decide +kernel
theorem dX11_feud_21 : decode cX11_feud 21 = .ok (.iconst 0, 1) := by decide +kernel
theorem dX11_feud_22 : decode cX11_feud 22 = .ok (.istore 4, 2) := by decide +kernel
theorem dX11_feud_24 : decode cX11_feud 24 = .ok (.iload 4, 2) := by decide +kernel
theorem dX11_feud_26 : decode cX11_feud 26 = .ok (.aload_n 0, 1) := by decide +kernel
theorem dX11_feud_27 : decode cX11_feud 27 = .ok (.getfield 20, 3) := by decide +kernel
theorem dX11_feud_30 : decode cX11_feud 30 = .ok (.iconst 4, 1) := by decide +kernel
theorem dX11_feud_31 : decode cX11_feud 31 = .ok (.iaload, 1) := by decide +kernel
theorem dX11_feud_32 : decode cX11_feud 32 = .ok (.if_icmp .ge 51, 3) := by decide +kernel
theorem dX11_feud_35 : decode cX11_feud 35 = .ok (.iload_n 3, 1) := by decide +kernel
theorem dX11_feud_36 : decode cX11_feud 36 = .ok (.aload_n 0, 1) := by decide +kernel
theorem dX11_feud_37 : decode cX11_feud 37 = .ok (.iload 4, 2) := by decide +kernel
theorem dX11_feud_39 : decode cX11_feud 39 = .ok (.invokevirtual 262, 3) := by decide +kernel
theorem dX11_feud_42 : decode cX11_feud 42 = .ok (.ifCond .ne 32, 3) := by decide +kernel
theorem dX11_feud_45 : decode cX11_feud 45 = .ok (.aload_n 0, 1) := by decide +kernel
theorem dX11_feud_46 : decode cX11_feud 46 = .ok (.iload 4, 2) := by decide +kernel
theorem dX11_feud_48 : decode cX11_feud 48 = .ok (.invokevirtual 243, 3) := by decide +kernel
theorem dX11_feud_51 : decode cX11_feud 51 = .ok (.iload_n 1, 1) := by decide +kernel
theorem dX11_feud_52 : decode cX11_feud 52 = .ok (.if_icmp .ne 22, 3) := by decide +kernel
theorem dX11_feud_55 : decode cX11_feud 55 = .ok (.aload_n 0, 1) := by decide +kernel
theorem dX11_feud_56 : decode cX11_feud 56 = .ok (.iload 4, 2) := by decide +kernel
theorem dX11_feud_58 : decode cX11_feud 58 = .ok (.invokevirtual 237, 3) := by decide +kernel
theorem dX11_feud_61 : decode cX11_feud 61 = .ok (.iload_n 2, 1) := by decide +kernel
theorem dX11_feud_62 : decode cX11_feud 62 = .ok (.if_icmp .ne 12, 3) := by decide +kernel
theorem dX11_feud_65 : decode cX11_feud 65 = .ok (.aload_n 0, 1) := by decide +kernel
theorem dX11_feud_66 : decode cX11_feud 66 = .ok (.iload 4, 2) := by decide +kernel
theorem dX11_feud_68 : decode cX11_feud 68 = .ok (.invokevirtual 274, 3) := by decide +kernel
theorem dX11_feud_71 : decode cX11_feud 71 = .ok (.goto 4, 3) := by decide +kernel
theorem dX11_feud_74 : decode cX11_feud 74 = .ok (.iconst 0, 1) := by decide +kernel
theorem dX11_feud_75 : decode cX11_feud 75 = .ok (.iadd, 1) := by decide +kernel
theorem dX11_feud_76 : decode cX11_feud 76 = .ok (.istore_n 3, 1) := by decide +kernel
theorem dX11_feud_77 : decode cX11_feud 77 = .ok (.iinc 4 1, 3) := by decide +kernel
theorem dX11_feud_80 : decode cX11_feud 80 = .ok (.goto (-56), 3) := by decide +kernel
theorem dX11_feud_83 : decode cX11_feud 83 = .ok (.iload_n 3, 1) := by decide +kernel
theorem dX11_feud_84 : decode cX11_feud 84 = .ok (.ireturn, 1) := by decide +kernel
theorem dX11_quiet_0 : decode cX11_quiet 0 = .ok (.aload_n 0, 1) := by decide +kernel
theorem dX11_quiet_1 : decode cX11_quiet 1 = .ok (.invokevirtual 153, 3) := by decide +kernel
theorem dX11_quiet_4 : decode cX11_quiet 4 = .ok (.aload_n 0, 1) := by decide +kernel
theorem dX11_quiet_5 : decode cX11_quiet 5 = .ok (.iload_n 1, 1) := by decide +kernel
theorem dX11_quiet_6 : decode cX11_quiet 6 = .ok (.invokevirtual 277, 3) := by decide +kernel
theorem dX11_quiet_9 : decode cX11_quiet 9 = .ok (.ifCond .ne 9, 3) := by decide +kernel
theorem dX11_quiet_12 : decode cX11_quiet 12 = .ok (.aload_n 0, 1) := by decide +kernel
theorem dX11_quiet_13 : decode cX11_quiet 13 = .ok (.iconst 1, 1) := by decide +kernel
theorem dX11_quiet_14 : decode cX11_quiet 14 = .ok (.invokevirtual 156, 3) := by decide +kernel
theorem dX11_quiet_17 : decode cX11_quiet 17 = .ok (.ireturn, 1) := by decide +kernel
theorem dX11_quiet_18 : decode cX11_quiet 18 = .ok (.iconst 0, 1) := by decide +kernel
theorem dX11_quiet_19 : decode cX11_quiet 19 = .ok (.istore_n 2, 1) := by decide +kernel
theorem dX11_quiet_20 : decode cX11_quiet 20 = .ok (.iconst 0, 1) := by decide +kernel
theorem dX11_quiet_21 : decode cX11_quiet 21 = .ok (.istore_n 3, 1) := by decide +kernel
theorem dX11_quiet_22 : decode cX11_quiet 22 = .ok (.iload_n 3, 1) := by decide +kernel
theorem dX11_quiet_23 : decode cX11_quiet 23 = .ok (.bipush 60, 2) := by decide +kernel
theorem dX11_quiet_25 : decode cX11_quiet 25 = .ok (.if_icmp .gt 34, 3) := by decide +kernel
theorem dX11_quiet_28 : decode cX11_quiet 28 = .ok (.iload_n 2, 1) := by decide +kernel
theorem dX11_quiet_29 : decode cX11_quiet 29 = .ok (.aload_n 0, 1) := by decide +kernel
theorem dX11_quiet_30 : decode cX11_quiet 30 = .ok (.iload_n 1, 1) := by decide +kernel
theorem dX11_quiet_31 : decode cX11_quiet 31 = .ok (.aload_n 0, 1) := by decide +kernel
theorem dX11_quiet_32 : decode cX11_quiet 32 = .ok (.getfield 26, 3) := by decide +kernel
theorem dX11_quiet_35 : decode cX11_quiet 35 = .ok (.bipush 20, 2) := by decide +kernel
theorem dX11_quiet_37 : decode cX11_quiet 37 = .ok (.iaload, 1) := by decide +kernel
theorem dX11_quiet_38 : decode cX11_quiet 38 = .ok (.iload_n 3, 1) := by decide +kernel
theorem dX11_quiet_39 : decode cX11_quiet 39 = .ok (.iadd, 1) := by decide +kernel
theorem dX11_quiet_40 : decode cX11_quiet 40 = .ok (.invokevirtual 280, 3) := by decide +kernel
theorem dX11_quiet_43 : decode cX11_quiet 43 = .ok (.ifCond .ne 7, 3) := by decide +kernel
theorem dX11_quiet_46 : decode cX11_quiet 46 = .ok (.iconst 1, 1) := by decide +kernel
theorem dX11_quiet_47 : decode cX11_quiet 47 = .ok (.goto 4, 3) := by decide +kernel
theorem dX11_quiet_50 : decode cX11_quiet 50 = .ok (.iconst 0, 1) := by decide +kernel
theorem dX11_quiet_51 : decode cX11_quiet 51 = .ok (.iadd, 1) := by decide +kernel
theorem dX11_quiet_52 : decode cX11_quiet 52 = .ok (.istore_n 2, 1) := by decide +kernel
theorem dX11_quiet_53 : decode cX11_quiet 53 = .ok (.iinc 3 1, 3) := by decide +kernel
theorem dX11_quiet_56 : decode cX11_quiet 56 = .ok (.goto (-34), 3) := by decide +kernel
theorem dX11_quiet_59 : decode cX11_quiet 59 = .ok (.iload_n 2, 1) := by decide +kernel
theorem dX11_quiet_60 : decode cX11_quiet 60 = .ok (.ireturn, 1) := by decide +kernel
theorem dX11_strayIsOn_0 : decode cX11_strayIsOn 0 = .ok (.aload_n 0, 1) := by decide +kernel
theorem dX11_strayIsOn_1 : decode cX11_strayIsOn 1 = .ok (.getfield 41, 3) := by decide +kernel
theorem dX11_strayIsOn_4 : decode cX11_strayIsOn 4 = .ok (.iload_n 1, 1) := by decide +kernel
theorem dX11_strayIsOn_5 : decode cX11_strayIsOn 5 = .ok (.iaload, 1) := by decide +kernel
theorem dX11_strayIsOn_6 : decode cX11_strayIsOn 6 = .ok (.iload_n 2, 1) := by decide +kernel
theorem dX11_strayIsOn_7 : decode cX11_strayIsOn 7 = .ok (.if_icmp .ne 41, 3) := by decide +kernel
theorem dX11_strayIsOn_10 : decode cX11_strayIsOn 10 = .ok (.iload_n 3, 1) := by decide +kernel
theorem dX11_strayIsOn_11 : decode cX11_strayIsOn 11 = .ok (.aload_n 0, 1) := by decide +kernel
theorem dX11_strayIsOn_12 : decode cX11_strayIsOn 12 = .ok (.getfield 20, 3) := by decide +kernel
theorem dX11_strayIsOn_15 : decode cX11_strayIsOn 15 = .ok (.bipush 54, 2) := by decide +kernel
theorem dX11_strayIsOn_17 : decode cX11_strayIsOn 17 = .ok (.iconst 2, 1) := by decide +kernel
theorem dX11_strayIsOn_18 : decode cX11_strayIsOn 18 = .ok (.iload_n 1, 1) := by decide +kernel
theorem dX11_strayIsOn_19 : decode cX11_strayIsOn 19 = .ok (.imul, 1) := by decide +kernel
theorem dX11_strayIsOn_20 : decode cX11_strayIsOn 20 = .ok (.iadd, 1) := by decide +kernel
theorem dX11_strayIsOn_21 : decode cX11_strayIsOn 21 = .ok (.iconst 1, 1) := by decide +kernel
theorem dX11_strayIsOn_22 : decode cX11_strayIsOn 22 = .ok (.iadd, 1) := by decide +kernel
theorem dX11_strayIsOn_23 : decode cX11_strayIsOn 23 = .ok (.iaload, 1) := by decide +kernel
theorem dX11_strayIsOn_24 : decode cX11_strayIsOn 24 = .ok (.aload_n 0, 1) := by decide +kernel
theorem dX11_strayIsOn_25 : decode cX11_strayIsOn 25 = .ok (.aload_n 0, 1) := by decide +kernel
theorem dX11_strayIsOn_26 : decode cX11_strayIsOn 26 = .ok (.getfield 20, 3) := by decide +kernel
theorem dX11_strayIsOn_29 : decode cX11_strayIsOn 29 = .ok (.bipush 54, 2) := by decide +kernel
theorem dX11_strayIsOn_31 : decode cX11_strayIsOn 31 = .ok (.iconst 2, 1) := by decide +kernel
theorem dX11_strayIsOn_32 : decode cX11_strayIsOn 32 = .ok (.iload_n 1, 1) := by decide +kernel
theorem dX11_strayIsOn_33 : decode cX11_strayIsOn 33 = .ok (.imul, 1) := by decide +kernel
theorem dX11_strayIsOn_34 : decode cX11_strayIsOn 34 = .ok (.iadd, 1) := by decide +kernel
theorem dX11_strayIsOn_35 : decode cX11_strayIsOn 35 = .ok (.iaload, 1) := by decide +kernel
theorem dX11_strayIsOn_36 : decode cX11_strayIsOn 36 = .ok (.iload_n 2, 1) := by decide +kernel
theorem dX11_strayIsOn_37 : decode cX11_strayIsOn 37 = .ok (.invokevirtual 249, 3) := by decide +kernel
theorem dX11_strayIsOn_40 : decode cX11_strayIsOn 40 = .ok (.iadd, 1) := by decide +kernel
theorem dX11_strayIsOn_41 : decode cX11_strayIsOn 41 = .ok (.if_icmp .lt 7, 3) := by decide +kernel
theorem dX11_strayIsOn_44 : decode cX11_strayIsOn 44 = .ok (.iconst 1, 1) := by decide +kernel
theorem dX11_strayIsOn_45 : decode cX11_strayIsOn 45 = .ok (.goto 4, 3) := by decide +kernel
theorem dX11_strayIsOn_48 : decode cX11_strayIsOn 48 = .ok (.iconst 0, 1) := by decide +kernel
theorem dX11_strayIsOn_49 : decode cX11_strayIsOn 49 = .ok (.ireturn, 1) := by decide +kernel
theorem dX11_satOn_0 : decode cX11_satOn 0 = .ok (.iconst 0, 1) := by decide +kernel
theorem dX11_satOn_1 : decode cX11_satOn 1 = .ok (.istore_n 3, 1) := by decide +kernel
theorem dX11_satOn_2 : decode cX11_satOn 2 = .ok (.iconst 0, 1) := by decide +kernel
theorem dX11_satOn_3 : decode cX11_satOn 3 = .ok (.istore 4, 2) := by decide +kernel
theorem dX11_satOn_5 : decode cX11_satOn 5 = .ok (.iload 4, 2) := by decide +kernel
theorem dX11_satOn_7 : decode cX11_satOn 7 = .ok (.aload_n 0, 1) := by decide +kernel
theorem dX11_satOn_8 : decode cX11_satOn 8 = .ok (.getfield 20, 3) := by decide +kernel
theorem dX11_satOn_11 : decode cX11_satOn 11 = .ok (.iconst 4, 1) := by decide +kernel
theorem dX11_satOn_12 : decode cX11_satOn 12 = .ok (.iaload, 1) := by decide +kernel
theorem dX11_satOn_13 : decode cX11_satOn 13 = .ok (.if_icmp .ge 38, 3) := by decide +kernel
theorem dX11_satOn_16 : decode cX11_satOn 16 = .ok (.iload_n 3, 1) := by decide +kernel
theorem dX11_satOn_17 : decode cX11_satOn 17 = .ok (.aload_n 0, 1) := by decide +kernel
theorem dX11_satOn_18 : decode cX11_satOn 18 = .ok (.iload 4, 2) := by decide +kernel
theorem dX11_satOn_20 : decode cX11_satOn 20 = .ok (.invokevirtual 246, 3) := by decide +kernel
theorem dX11_satOn_23 : decode cX11_satOn 23 = .ok (.iload_n 1, 1) := by decide +kernel
theorem dX11_satOn_24 : decode cX11_satOn 24 = .ok (.if_icmp .ne 18, 3) := by decide +kernel
theorem dX11_satOn_27 : decode cX11_satOn 27 = .ok (.aload_n 0, 1) := by decide +kernel
theorem dX11_satOn_28 : decode cX11_satOn 28 = .ok (.iload 4, 2) := by decide +kernel
theorem dX11_satOn_30 : decode cX11_satOn 30 = .ok (.iload_n 2, 1) := by decide +kernel
theorem dX11_satOn_31 : decode cX11_satOn 31 = .ok (.invokevirtual 265, 3) := by decide +kernel
theorem dX11_satOn_34 : decode cX11_satOn 34 = .ok (.iconst 2, 1) := by decide +kernel
theorem dX11_satOn_35 : decode cX11_satOn 35 = .ok (.if_icmp .ne 7, 3) := by decide +kernel
theorem dX11_satOn_38 : decode cX11_satOn 38 = .ok (.iconst 1, 1) := by decide +kernel
theorem dX11_satOn_39 : decode cX11_satOn 39 = .ok (.goto 4, 3) := by decide +kernel
theorem dX11_satOn_42 : decode cX11_satOn 42 = .ok (.iconst 0, 1) := by decide +kernel
theorem dX11_satOn_43 : decode cX11_satOn 43 = .ok (.iadd, 1) := by decide +kernel
theorem dX11_satOn_44 : decode cX11_satOn 44 = .ok (.istore_n 3, 1) := by decide +kernel
theorem dX11_satOn_45 : decode cX11_satOn 45 = .ok (.iinc 4 1, 3) := by decide +kernel
theorem dX11_satOn_48 : decode cX11_satOn 48 = .ok (.goto (-43), 3) := by decide +kernel
theorem dX11_satOn_51 : decode cX11_satOn 51 = .ok (.iload_n 3, 1) := by decide +kernel
theorem dX11_satOn_52 : decode cX11_satOn 52 = .ok (.ireturn, 1) := by decide +kernel
theorem dX11_straysOn_0 : decode cX11_straysOn 0 = .ok (.iconst 0, 1) := by decide +kernel
theorem dX11_straysOn_1 : decode cX11_straysOn 1 = .ok (.istore_n 3, 1) := by decide +kernel
theorem dX11_straysOn_2 : decode cX11_straysOn 2 = .ok (.iconst 0, 1) := by decide +kernel
theorem dX11_straysOn_3 : decode cX11_straysOn 3 = .ok (.istore 4, 2) := by decide +kernel
theorem dX11_straysOn_5 : decode cX11_straysOn 5 = .ok (.iload 4, 2) := by decide +kernel
theorem dX11_straysOn_7 : decode cX11_straysOn 7 = .ok (.aload_n 0, 1) := by decide +kernel
theorem dX11_straysOn_8 : decode cX11_straysOn 8 = .ok (.getfield 20, 3) := by decide +kernel
theorem dX11_straysOn_11 : decode cX11_straysOn 11 = .ok (.iconst 5, 1) := by decide +kernel
theorem dX11_straysOn_12 : decode cX11_straysOn 12 = .ok (.iaload, 1) := by decide +kernel
theorem dX11_straysOn_13 : decode cX11_straysOn 13 = .ok (.if_icmp .ge 28, 3) := by decide +kernel
theorem dX11_straysOn_16 : decode cX11_straysOn 16 = .ok (.iload_n 3, 1) := by decide +kernel
theorem dX11_straysOn_17 : decode cX11_straysOn 17 = .ok (.aload_n 0, 1) := by decide +kernel
theorem dX11_straysOn_18 : decode cX11_straysOn 18 = .ok (.iload 4, 2) := by decide +kernel
theorem dX11_straysOn_20 : decode cX11_straysOn 20 = .ok (.iload_n 1, 1) := by decide +kernel
theorem dX11_straysOn_21 : decode cX11_straysOn 21 = .ok (.iload_n 2, 1) := by decide +kernel
theorem dX11_straysOn_22 : decode cX11_straysOn 22 = .ok (.invokevirtual 340, 3) := by decide +kernel
theorem dX11_straysOn_25 : decode cX11_straysOn 25 = .ok (.ifCond .eq 7, 3) := by decide +kernel
theorem dX11_straysOn_28 : decode cX11_straysOn 28 = .ok (.iconst 1, 1) := by decide +kernel
theorem dX11_straysOn_29 : decode cX11_straysOn 29 = .ok (.goto 4, 3) := by decide +kernel
theorem dX11_straysOn_32 : decode cX11_straysOn 32 = .ok (.iconst 0, 1) := by decide +kernel
theorem dX11_straysOn_33 : decode cX11_straysOn 33 = .ok (.iadd, 1) := by decide +kernel
theorem dX11_straysOn_34 : decode cX11_straysOn 34 = .ok (.istore_n 3, 1) := by decide +kernel
theorem dX11_straysOn_35 : decode cX11_straysOn 35 = .ok (.iinc 4 1, 3) := by decide +kernel
theorem dX11_straysOn_38 : decode cX11_straysOn 38 = .ok (.goto (-33), 3) := by decide +kernel
theorem dX11_straysOn_41 : decode cX11_straysOn 41 = .ok (.iload_n 3, 1) := by decide +kernel
theorem dX11_straysOn_42 : decode cX11_straysOn 42 = .ok (.ireturn, 1) := by decide +kernel
theorem dX11_tryHomes_0 : decode cX11_tryHomes 0 = .ok (.iload_n 1, 1) := by decide +kernel
theorem dX11_tryHomes_1 : decode cX11_tryHomes 1 = .ok (.aload_n 0, 1) := by decide +kernel
theorem dX11_tryHomes_2 : decode cX11_tryHomes 2 = .ok (.getfield 20, 3) := by decide +kernel
theorem dX11_tryHomes_5 : decode cX11_tryHomes 5 = .ok (.iconst 5, 1) := by decide +kernel
theorem dX11_tryHomes_6 : decode cX11_tryHomes 6 = .ok (.iaload, 1) := by decide +kernel
theorem dX11_tryHomes_7 : decode cX11_tryHomes 7 = .ok (.if_icmp .ge 54, 3) := by decide +kernel
theorem dX11_tryHomes_10 : decode cX11_tryHomes 10 = .ok (.iconst 0, 1) := by decide +kernel
theorem dX11_tryHomes_11 : decode cX11_tryHomes 11 = .ok (.istore_n 2, 1) := by decide +kernel
theorem dX11_tryHomes_12 : decode cX11_tryHomes 12 = .ok (.iload_n 2, 1) := by decide +kernel
theorem dX11_tryHomes_13 : decode cX11_tryHomes 13 = .ok (.aload_n 0, 1) := by decide +kernel
theorem dX11_tryHomes_14 : decode cX11_tryHomes 14 = .ok (.getfield 20, 3) := by decide +kernel
theorem dX11_tryHomes_17 : decode cX11_tryHomes 17 = .ok (.iconst 3, 1) := by decide +kernel
theorem dX11_tryHomes_18 : decode cX11_tryHomes 18 = .ok (.iaload, 1) := by decide +kernel
theorem dX11_tryHomes_19 : decode cX11_tryHomes 19 = .ok (.if_icmp .ge 41, 3) := by decide +kernel
theorem dX11_tryHomes_22 : decode cX11_tryHomes 22 = .ok (.iload_n 2, 1) := by decide +kernel
theorem dX11_tryHomes_23 : decode cX11_tryHomes 23 = .ok (.aload_n 0, 1) := by decide +kernel
theorem dX11_tryHomes_24 : decode cX11_tryHomes 24 = .ok (.getfield 20, 3) := by decide +kernel
theorem dX11_tryHomes_27 : decode cX11_tryHomes 27 = .ok (.bipush 54, 2) := by decide +kernel
theorem dX11_tryHomes_29 : decode cX11_tryHomes 29 = .ok (.iconst 2, 1) := by decide +kernel
theorem dX11_tryHomes_30 : decode cX11_tryHomes 30 = .ok (.iload_n 1, 1) := by decide +kernel
theorem dX11_tryHomes_31 : decode cX11_tryHomes 31 = .ok (.imul, 1) := by decide +kernel
theorem dX11_tryHomes_32 : decode cX11_tryHomes 32 = .ok (.iadd, 1) := by decide +kernel
theorem dX11_tryHomes_33 : decode cX11_tryHomes 33 = .ok (.iaload, 1) := by decide +kernel
theorem dX11_tryHomes_34 : decode cX11_tryHomes 34 = .ok (.if_icmp .ne 6, 3) := by decide +kernel
theorem dX11_tryHomes_37 : decode cX11_tryHomes 37 = .ok (.goto 17, 3) := by decide +kernel
theorem dX11_tryHomes_40 : decode cX11_tryHomes 40 = .ok (.aload_n 0, 1) := by decide +kernel
theorem dX11_tryHomes_41 : decode cX11_tryHomes 41 = .ok (.getfield 41, 3) := by decide +kernel
theorem dX11_tryHomes_44 : decode cX11_tryHomes 44 = .ok (.iload_n 1, 1) := by decide +kernel
theorem dX11_tryHomes_45 : decode cX11_tryHomes 45 = .ok (.iload_n 2, 1) := by decide +kernel
theorem dX11_tryHomes_46 : decode cX11_tryHomes 46 = .ok (.iastore, 1) := by decide +kernel
theorem dX11_tryHomes_47 : decode cX11_tryHomes 47 = .ok (.aload_n 0, 1) := by decide +kernel
theorem dX11_tryHomes_48 : decode cX11_tryHomes 48 = .ok (.iload_n 1, 1) := by decide +kernel
theorem dX11_tryHomes_49 : decode cX11_tryHomes 49 = .ok (.iconst 1, 1) := by decide +kernel
theorem dX11_tryHomes_50 : decode cX11_tryHomes 50 = .ok (.iadd, 1) := by decide +kernel
theorem dX11_tryHomes_51 : decode cX11_tryHomes 51 = .ok (.invokevirtual 343, 3) := by decide +kernel
theorem dX11_tryHomes_54 : decode cX11_tryHomes 54 = .ok (.iinc 2 1, 3) := by decide +kernel
theorem dX11_tryHomes_57 : decode cX11_tryHomes 57 = .ok (.goto (-45), 3) := by decide +kernel
theorem dX11_tryHomes_60 : decode cX11_tryHomes 60 = .ok (.return_, 1) := by decide +kernel
theorem dX11_tryHomes_61 : decode cX11_tryHomes 61 = .ok (.iconst 0, 1) := by decide +kernel
theorem dX11_tryHomes_62 : decode cX11_tryHomes 62 = .ok (.istore_n 2, 1) := by decide +kernel
theorem dX11_tryHomes_63 : decode cX11_tryHomes 63 = .ok (.iload_n 2, 1) := by decide +kernel
theorem dX11_tryHomes_64 : decode cX11_tryHomes 64 = .ok (.aload_n 0, 1) := by decide +kernel
theorem dX11_tryHomes_65 : decode cX11_tryHomes 65 = .ok (.getfield 20, 3) := by decide +kernel
theorem dX11_tryHomes_68 : decode cX11_tryHomes 68 = .ok (.bipush 6, 2) := by decide +kernel
theorem dX11_tryHomes_70 : decode cX11_tryHomes 70 = .ok (.iaload, 1) := by decide +kernel
theorem dX11_tryHomes_71 : decode cX11_tryHomes 71 = .ok (.if_icmp .ge 83, 3) := by decide +kernel
theorem dX11_tryHomes_74 : decode cX11_tryHomes 74 = .ok (.aload_n 0, 1) := by decide +kernel
theorem dX11_tryHomes_75 : decode cX11_tryHomes 75 = .ok (.aload_n 0, 1) := by decide +kernel
theorem dX11_tryHomes_76 : decode cX11_tryHomes 76 = .ok (.getfield 20, 3) := by decide +kernel
theorem dX11_tryHomes_79 : decode cX11_tryHomes 79 = .ok (.bipush 60, 2) := by decide +kernel
theorem dX11_tryHomes_81 : decode cX11_tryHomes 81 = .ok (.iconst 3, 1) := by decide +kernel
theorem dX11_tryHomes_82 : decode cX11_tryHomes 82 = .ok (.iload_n 2, 1) := by decide +kernel
theorem dX11_tryHomes_83 : decode cX11_tryHomes 83 = .ok (.imul, 1) := by decide +kernel
theorem dX11_tryHomes_84 : decode cX11_tryHomes 84 = .ok (.iadd, 1) := by decide +kernel
theorem dX11_tryHomes_85 : decode cX11_tryHomes 85 = .ok (.iaload, 1) := by decide +kernel
theorem dX11_tryHomes_86 : decode cX11_tryHomes 86 = .ok (.aload_n 0, 1) := by decide +kernel
theorem dX11_tryHomes_87 : decode cX11_tryHomes 87 = .ok (.getfield 20, 3) := by decide +kernel
theorem dX11_tryHomes_90 : decode cX11_tryHomes 90 = .ok (.bipush 60, 2) := by decide +kernel
theorem dX11_tryHomes_92 : decode cX11_tryHomes 92 = .ok (.iconst 3, 1) := by decide +kernel
theorem dX11_tryHomes_93 : decode cX11_tryHomes 93 = .ok (.iload_n 2, 1) := by decide +kernel
theorem dX11_tryHomes_94 : decode cX11_tryHomes 94 = .ok (.imul, 1) := by decide +kernel
theorem dX11_tryHomes_95 : decode cX11_tryHomes 95 = .ok (.iadd, 1) := by decide +kernel
theorem dX11_tryHomes_96 : decode cX11_tryHomes 96 = .ok (.iconst 1, 1) := by decide +kernel
theorem dX11_tryHomes_97 : decode cX11_tryHomes 97 = .ok (.iadd, 1) := by decide +kernel
theorem dX11_tryHomes_98 : decode cX11_tryHomes 98 = .ok (.iaload, 1) := by decide +kernel
theorem dX11_tryHomes_99 : decode cX11_tryHomes 99 = .ok (.invokevirtual 346, 3) := by decide +kernel
theorem dX11_tryHomes_102 : decode cX11_tryHomes 102 = .ok (.aload_n 0, 1) := by decide +kernel
theorem dX11_tryHomes_103 : decode cX11_tryHomes 103 = .ok (.aload_n 0, 1) := by decide +kernel
theorem dX11_tryHomes_104 : decode cX11_tryHomes 104 = .ok (.getfield 20, 3) := by decide +kernel
theorem dX11_tryHomes_107 : decode cX11_tryHomes 107 = .ok (.bipush 60, 2) := by decide +kernel
theorem dX11_tryHomes_109 : decode cX11_tryHomes 109 = .ok (.iconst 3, 1) := by decide +kernel
theorem dX11_tryHomes_110 : decode cX11_tryHomes 110 = .ok (.iload_n 2, 1) := by decide +kernel
theorem dX11_tryHomes_111 : decode cX11_tryHomes 111 = .ok (.imul, 1) := by decide +kernel
theorem dX11_tryHomes_112 : decode cX11_tryHomes 112 = .ok (.iadd, 1) := by decide +kernel
theorem dX11_tryHomes_113 : decode cX11_tryHomes 113 = .ok (.iaload, 1) := by decide +kernel
theorem dX11_tryHomes_114 : decode cX11_tryHomes 114 = .ok (.aload_n 0, 1) := by decide +kernel
theorem dX11_tryHomes_115 : decode cX11_tryHomes 115 = .ok (.getfield 20, 3) := by decide +kernel
theorem dX11_tryHomes_118 : decode cX11_tryHomes 118 = .ok (.bipush 60, 2) := by decide +kernel
theorem dX11_tryHomes_120 : decode cX11_tryHomes 120 = .ok (.iconst 3, 1) := by decide +kernel
theorem dX11_tryHomes_121 : decode cX11_tryHomes 121 = .ok (.iload_n 2, 1) := by decide +kernel
theorem dX11_tryHomes_122 : decode cX11_tryHomes 122 = .ok (.imul, 1) := by decide +kernel
theorem dX11_tryHomes_123 : decode cX11_tryHomes 123 = .ok (.iadd, 1) := by decide +kernel
theorem dX11_tryHomes_124 : decode cX11_tryHomes 124 = .ok (.iconst 1, 1) := by decide +kernel
theorem dX11_tryHomes_125 : decode cX11_tryHomes 125 = .ok (.iadd, 1) := by decide +kernel
theorem dX11_tryHomes_126 : decode cX11_tryHomes 126 = .ok (.iaload, 1) := by decide +kernel
theorem dX11_tryHomes_127 : decode cX11_tryHomes 127 = .ok (.invokevirtual 349, 3) := by decide +kernel
theorem dX11_tryHomes_130 : decode cX11_tryHomes 130 = .ok (.iadd, 1) := by decide +kernel
theorem dX11_tryHomes_131 : decode cX11_tryHomes 131 = .ok (.aload_n 0, 1) := by decide +kernel
theorem dX11_tryHomes_132 : decode cX11_tryHomes 132 = .ok (.getfield 20, 3) := by decide +kernel
theorem dX11_tryHomes_135 : decode cX11_tryHomes 135 = .ok (.bipush 60, 2) := by decide +kernel
theorem dX11_tryHomes_137 : decode cX11_tryHomes 137 = .ok (.iconst 3, 1) := by decide +kernel
theorem dX11_tryHomes_138 : decode cX11_tryHomes 138 = .ok (.iload_n 2, 1) := by decide +kernel
theorem dX11_tryHomes_139 : decode cX11_tryHomes 139 = .ok (.imul, 1) := by decide +kernel
theorem dX11_tryHomes_140 : decode cX11_tryHomes 140 = .ok (.iadd, 1) := by decide +kernel
theorem dX11_tryHomes_141 : decode cX11_tryHomes 141 = .ok (.iconst 2, 1) := by decide +kernel
theorem dX11_tryHomes_142 : decode cX11_tryHomes 142 = .ok (.iadd, 1) := by decide +kernel
theorem dX11_tryHomes_143 : decode cX11_tryHomes 143 = .ok (.iaload, 1) := by decide +kernel
theorem dX11_tryHomes_144 : decode cX11_tryHomes 144 = .ok (.if_icmp .eq 4, 3) := by decide +kernel
theorem dX11_tryHomes_147 : decode cX11_tryHomes 147 = .ok (.return_, 1) := by decide +kernel
theorem dX11_tryHomes_148 : decode cX11_tryHomes 148 = .ok (.iinc 2 1, 3) := by decide +kernel
theorem dX11_tryHomes_151 : decode cX11_tryHomes 151 = .ok (.goto (-88), 3) := by decide +kernel
theorem dX11_tryHomes_154 : decode cX11_tryHomes 154 = .ok (.aload_n 0, 1) := by decide +kernel
theorem dX11_tryHomes_155 : decode cX11_tryHomes 155 = .ok (.getfield 352, 3) := by decide +kernel
theorem dX11_tryHomes_158 : decode cX11_tryHomes 158 = .ok (.aload_n 0, 1) := by decide +kernel
theorem dX11_tryHomes_159 : decode cX11_tryHomes 159 = .ok (.getfield 355, 3) := by decide +kernel
theorem dX11_tryHomes_162 : decode cX11_tryHomes 162 = .ok (.if_icmp .ne 17, 3) := by decide +kernel
theorem dX11_tryHomes_165 : decode cX11_tryHomes 165 = .ok (.aload_n 0, 1) := by decide +kernel
theorem dX11_tryHomes_166 : decode cX11_tryHomes 166 = .ok (.getfield 41, 3) := by decide +kernel
theorem dX11_tryHomes_169 : decode cX11_tryHomes 169 = .ok (.iconst 0, 1) := by decide +kernel
theorem dX11_tryHomes_170 : decode cX11_tryHomes 170 = .ok (.aload_n 0, 1) := by decide +kernel
theorem dX11_tryHomes_171 : decode cX11_tryHomes 171 = .ok (.getfield 44, 3) := by decide +kernel
theorem dX11_tryHomes_174 : decode cX11_tryHomes 174 = .ok (.iconst 0, 1) := by decide +kernel
theorem dX11_tryHomes_175 : decode cX11_tryHomes 175 = .ok (.iconst 3, 1) := by decide +kernel
theorem dX11_tryHomes_176 : decode cX11_tryHomes 176 = .ok (.invokestatic 162, 3) := by decide +kernel
theorem dX11_tryHomes_179 : decode cX11_tryHomes 179 = .ok (.aload_n 0, 1) := by decide +kernel
theorem dX11_tryHomes_180 : decode cX11_tryHomes 180 = .ok (.dup, 1) := by decide +kernel
theorem dX11_tryHomes_181 : decode cX11_tryHomes 181 = .ok (.getfield 352, 3) := by decide +kernel
theorem dX11_tryHomes_184 : decode cX11_tryHomes 184 = .ok (.iconst 1, 1) := by decide +kernel
theorem dX11_tryHomes_185 : decode cX11_tryHomes 185 = .ok (.iadd, 1) := by decide +kernel
theorem dX11_tryHomes_186 : decode cX11_tryHomes 186 = .ok (.putfield 352, 3) := by decide +kernel
theorem dX11_tryHomes_189 : decode cX11_tryHomes 189 = .ok (.iconst 0, 1) := by decide +kernel
theorem dX11_tryHomes_190 : decode cX11_tryHomes 190 = .ok (.istore_n 2, 1) := by decide +kernel
theorem dX11_tryHomes_191 : decode cX11_tryHomes 191 = .ok (.iload_n 2, 1) := by decide +kernel
theorem dX11_tryHomes_192 : decode cX11_tryHomes 192 = .ok (.aload_n 0, 1) := by decide +kernel
theorem dX11_tryHomes_193 : decode cX11_tryHomes 193 = .ok (.getfield 20, 3) := by decide +kernel
theorem dX11_tryHomes_196 : decode cX11_tryHomes 196 = .ok (.iconst 5, 1) := by decide +kernel
theorem dX11_tryHomes_197 : decode cX11_tryHomes 197 = .ok (.iaload, 1) := by decide +kernel
theorem dX11_tryHomes_198 : decode cX11_tryHomes 198 = .ok (.if_icmp .ge 29, 3) := by decide +kernel
theorem dX11_tryHomes_201 : decode cX11_tryHomes 201 = .ok (.aload_n 0, 1) := by decide +kernel
theorem dX11_tryHomes_202 : decode cX11_tryHomes 202 = .ok (.getfield 47, 3) := by decide +kernel
theorem dX11_tryHomes_205 : decode cX11_tryHomes 205 = .ok (.bipush 6, 2) := by decide +kernel
theorem dX11_tryHomes_207 : decode cX11_tryHomes 207 = .ok (.iload_n 2, 1) := by decide +kernel
theorem dX11_tryHomes_208 : decode cX11_tryHomes 208 = .ok (.imul, 1) := by decide +kernel
theorem dX11_tryHomes_209 : decode cX11_tryHomes 209 = .ok (.aload_n 0, 1) := by decide +kernel
theorem dX11_tryHomes_210 : decode cX11_tryHomes 210 = .ok (.getfield 41, 3) := by decide +kernel
theorem dX11_tryHomes_213 : decode cX11_tryHomes 213 = .ok (.iload_n 2, 1) := by decide +kernel
theorem dX11_tryHomes_214 : decode cX11_tryHomes 214 = .ok (.iaload, 1) := by decide +kernel
theorem dX11_tryHomes_215 : decode cX11_tryHomes 215 = .ok (.iadd, 1) := by decide +kernel
theorem dX11_tryHomes_216 : decode cX11_tryHomes 216 = .ok (.dup2, 1) := by decide +kernel
theorem dX11_tryHomes_217 : decode cX11_tryHomes 217 = .ok (.iaload, 1) := by decide +kernel
theorem dX11_tryHomes_218 : decode cX11_tryHomes 218 = .ok (.iconst 1, 1) := by decide +kernel
theorem dX11_tryHomes_219 : decode cX11_tryHomes 219 = .ok (.iadd, 1) := by decide +kernel
theorem dX11_tryHomes_220 : decode cX11_tryHomes 220 = .ok (.iastore, 1) := by decide +kernel
theorem dX11_tryHomes_221 : decode cX11_tryHomes 221 = .ok (.iinc 2 1, 3) := by decide +kernel
theorem dX11_tryHomes_224 : decode cX11_tryHomes 224 = .ok (.goto (-33), 3) := by decide +kernel
theorem dX11_tryHomes_227 : decode cX11_tryHomes 227 = .ok (.iconst 0, 1) := by decide +kernel
theorem dX11_tryHomes_228 : decode cX11_tryHomes 228 = .ok (.istore_n 2, 1) := by decide +kernel
theorem dX11_tryHomes_229 : decode cX11_tryHomes 229 = .ok (.iload_n 2, 1) := by decide +kernel
theorem dX11_tryHomes_230 : decode cX11_tryHomes 230 = .ok (.aload_n 0, 1) := by decide +kernel
theorem dX11_tryHomes_231 : decode cX11_tryHomes 231 = .ok (.getfield 20, 3) := by decide +kernel
theorem dX11_tryHomes_234 : decode cX11_tryHomes 234 = .ok (.iconst 3, 1) := by decide +kernel
theorem dX11_tryHomes_235 : decode cX11_tryHomes 235 = .ok (.iaload, 1) := by decide +kernel
theorem dX11_tryHomes_236 : decode cX11_tryHomes 236 = .ok (.if_icmp .ge 47, 3) := by decide +kernel
theorem dX11_tryHomes_239 : decode cX11_tryHomes 239 = .ok (.iconst 0, 1) := by decide +kernel
theorem dX11_tryHomes_240 : decode cX11_tryHomes 240 = .ok (.istore_n 3, 1) := by decide +kernel
theorem dX11_tryHomes_241 : decode cX11_tryHomes 241 = .ok (.iload_n 3, 1) := by decide +kernel
theorem dX11_tryHomes_242 : decode cX11_tryHomes 242 = .ok (.bipush 41, 2) := by decide +kernel
theorem dX11_tryHomes_244 : decode cX11_tryHomes 244 = .ok (.if_icmp .ge 33, 3) := by decide +kernel
theorem dX11_tryHomes_247 : decode cX11_tryHomes 247 = .ok (.aload_n 0, 1) := by decide +kernel
theorem dX11_tryHomes_248 : decode cX11_tryHomes 248 = .ok (.getfield 50, 3) := by decide +kernel
theorem dX11_tryHomes_251 : decode cX11_tryHomes 251 = .ok (.iconst 4, 1) := by decide +kernel
theorem dX11_tryHomes_252 : decode cX11_tryHomes 252 = .ok (.bipush 41, 2) := by decide +kernel
theorem dX11_tryHomes_254 : decode cX11_tryHomes 254 = .ok (.iload_n 2, 1) := by decide +kernel
theorem dX11_tryHomes_255 : decode cX11_tryHomes 255 = .ok (.imul, 1) := by decide +kernel
theorem dX11_tryHomes_256 : decode cX11_tryHomes 256 = .ok (.iload_n 3, 1) := by decide +kernel
theorem dX11_tryHomes_257 : decode cX11_tryHomes 257 = .ok (.iadd, 1) := by decide +kernel
theorem dX11_tryHomes_258 : decode cX11_tryHomes 258 = .ok (.imul, 1) := by decide +kernel
theorem dX11_tryHomes_259 : decode cX11_tryHomes 259 = .ok (.aload_n 0, 1) := by decide +kernel
theorem dX11_tryHomes_260 : decode cX11_tryHomes 260 = .ok (.iload_n 2, 1) := by decide +kernel
theorem dX11_tryHomes_261 : decode cX11_tryHomes 261 = .ok (.iload_n 3, 1) := by decide +kernel
theorem dX11_tryHomes_262 : decode cX11_tryHomes 262 = .ok (.invokevirtual 349, 3) := by decide +kernel
theorem dX11_tryHomes_265 : decode cX11_tryHomes 265 = .ok (.iadd, 1) := by decide +kernel
theorem dX11_tryHomes_266 : decode cX11_tryHomes 266 = .ok (.dup2, 1) := by decide +kernel
theorem dX11_tryHomes_267 : decode cX11_tryHomes 267 = .ok (.iaload, 1) := by decide +kernel
theorem dX11_tryHomes_268 : decode cX11_tryHomes 268 = .ok (.iconst 1, 1) := by decide +kernel
theorem dX11_tryHomes_269 : decode cX11_tryHomes 269 = .ok (.iadd, 1) := by decide +kernel
theorem dX11_tryHomes_270 : decode cX11_tryHomes 270 = .ok (.iastore, 1) := by decide +kernel
theorem dX11_tryHomes_271 : decode cX11_tryHomes 271 = .ok (.iinc 3 1, 3) := by decide +kernel
theorem dX11_tryHomes_274 : decode cX11_tryHomes 274 = .ok (.goto (-33), 3) := by decide +kernel
theorem dX11_tryHomes_277 : decode cX11_tryHomes 277 = .ok (.iinc 2 1, 3) := by decide +kernel
theorem dX11_tryHomes_280 : decode cX11_tryHomes 280 = .ok (.goto (-51), 3) := by decide +kernel
theorem dX11_tryHomes_283 : decode cX11_tryHomes 283 = .ok (.return_, 1) := by decide +kernel
theorem dX11_seekFits_0 : decode cX11_seekFits 0 = .ok (.aload_n 0, 1) := by decide +kernel
theorem dX11_seekFits_1 : decode cX11_seekFits 1 = .ok (.iload_n 1, 1) := by decide +kernel
theorem dX11_seekFits_2 : decode cX11_seekFits 2 = .ok (.putfield 355, 3) := by decide +kernel
theorem dX11_seekFits_5 : decode cX11_seekFits 5 = .ok (.aload_n 0, 1) := by decide +kernel
theorem dX11_seekFits_6 : decode cX11_seekFits 6 = .ok (.iconst 0, 1) := by decide +kernel
theorem dX11_seekFits_7 : decode cX11_seekFits 7 = .ok (.putfield 352, 3) := by decide +kernel
theorem dX11_seekFits_10 : decode cX11_seekFits 10 = .ok (.iconst 0, 1) := by decide +kernel
theorem dX11_seekFits_11 : decode cX11_seekFits 11 = .ok (.istore_n 2, 1) := by decide +kernel
theorem dX11_seekFits_12 : decode cX11_seekFits 12 = .ok (.iload_n 2, 1) := by decide +kernel
theorem dX11_seekFits_13 : decode cX11_seekFits 13 = .ok (.bipush 18, 2) := by decide +kernel
theorem dX11_seekFits_15 : decode cX11_seekFits 15 = .ok (.if_icmp .ge 16, 3) := by decide +kernel
theorem dX11_seekFits_18 : decode cX11_seekFits 18 = .ok (.aload_n 0, 1) := by decide +kernel
theorem dX11_seekFits_19 : decode cX11_seekFits 19 = .ok (.getfield 47, 3) := by decide +kernel
theorem dX11_seekFits_22 : decode cX11_seekFits 22 = .ok (.iload_n 2, 1) := by decide +kernel
theorem dX11_seekFits_23 : decode cX11_seekFits 23 = .ok (.iconst 0, 1) := by decide +kernel
theorem dX11_seekFits_24 : decode cX11_seekFits 24 = .ok (.iastore, 1) := by decide +kernel
theorem dX11_seekFits_25 : decode cX11_seekFits 25 = .ok (.iinc 2 1, 3) := by decide +kernel
theorem dX11_seekFits_28 : decode cX11_seekFits 28 = .ok (.goto (-16), 3) := by decide +kernel
theorem dX11_seekFits_31 : decode cX11_seekFits 31 = .ok (.iconst 0, 1) := by decide +kernel
theorem dX11_seekFits_32 : decode cX11_seekFits 32 = .ok (.istore_n 2, 1) := by decide +kernel
theorem dX11_seekFits_33 : decode cX11_seekFits 33 = .ok (.iload_n 2, 1) := by decide +kernel
theorem dX11_seekFits_34 : decode cX11_seekFits 34 = .ok (.sipush 984, 3) := by decide +kernel
theorem dX11_seekFits_37 : decode cX11_seekFits 37 = .ok (.if_icmp .ge 16, 3) := by decide +kernel
theorem dX11_seekFits_40 : decode cX11_seekFits 40 = .ok (.aload_n 0, 1) := by decide +kernel
theorem dX11_seekFits_41 : decode cX11_seekFits 41 = .ok (.getfield 50, 3) := by decide +kernel
theorem dX11_seekFits_44 : decode cX11_seekFits 44 = .ok (.iload_n 2, 1) := by decide +kernel
theorem dX11_seekFits_45 : decode cX11_seekFits 45 = .ok (.iconst 0, 1) := by decide +kernel
theorem dX11_seekFits_46 : decode cX11_seekFits 46 = .ok (.iastore, 1) := by decide +kernel
theorem dX11_seekFits_47 : decode cX11_seekFits 47 = .ok (.iinc 2 1, 3) := by decide +kernel
theorem dX11_seekFits_50 : decode cX11_seekFits 50 = .ok (.goto (-17), 3) := by decide +kernel
theorem dX11_seekFits_53 : decode cX11_seekFits 53 = .ok (.aload_n 0, 1) := by decide +kernel
theorem dX11_seekFits_54 : decode cX11_seekFits 54 = .ok (.iconst 0, 1) := by decide +kernel
theorem dX11_seekFits_55 : decode cX11_seekFits 55 = .ok (.invokevirtual 343, 3) := by decide +kernel
theorem dX11_seekFits_58 : decode cX11_seekFits 58 = .ok (.return_, 1) := by decide +kernel
theorem dX11_isStray_0 : decode cX11_isStray 0 = .ok (.aload_n 0, 1) := by decide +kernel
theorem dX11_isStray_1 : decode cX11_isStray 1 = .ok (.getfield 166, 3) := by decide +kernel
theorem dX11_isStray_4 : decode cX11_isStray 4 = .ok (.ifCond .eq 23, 3) := by decide +kernel
theorem dX11_isStray_7 : decode cX11_isStray 7 = .ok (.iload_n 1, 1) := by decide +kernel
theorem dX11_isStray_8 : decode cX11_isStray 8 = .ok (.iconst 0, 1) := by decide +kernel
theorem dX11_isStray_9 : decode cX11_isStray 9 = .ok (.aload_n 0, 1) := by decide +kernel
theorem dX11_isStray_10 : decode cX11_isStray 10 = .ok (.getfield 20, 3) := by decide +kernel
theorem dX11_isStray_13 : decode cX11_isStray 13 = .ok (.iconst 5, 1) := by decide +kernel
theorem dX11_isStray_14 : decode cX11_isStray 14 = .ok (.iaload, 1) := by decide +kernel
theorem dX11_isStray_15 : decode cX11_isStray 15 = .ok (.iconst 1, 1) := by decide +kernel
theorem dX11_isStray_16 : decode cX11_isStray 16 = .ok (.isub, 1) := by decide +kernel
theorem dX11_isStray_17 : decode cX11_isStray 17 = .ok (.invokestatic 138, 3) := by decide +kernel
theorem dX11_isStray_20 : decode cX11_isStray 20 = .ok (.ifCond .eq 7, 3) := by decide +kernel
theorem dX11_isStray_23 : decode cX11_isStray 23 = .ok (.iconst 1, 1) := by decide +kernel
theorem dX11_isStray_24 : decode cX11_isStray 24 = .ok (.goto 4, 3) := by decide +kernel
theorem dX11_isStray_27 : decode cX11_isStray 27 = .ok (.iconst 0, 1) := by decide +kernel
theorem dX11_isStray_28 : decode cX11_isStray 28 = .ok (.ireturn, 1) := by decide +kernel
theorem dX11_fits_0 : decode cX11_fits 0 = .ok (.aload_n 0, 1) := by decide +kernel
theorem dX11_fits_1 : decode cX11_fits 1 = .ok (.invokevirtual 153, 3) := by decide +kernel
theorem dX11_fits_4 : decode cX11_fits 4 = .ok (.aload_n 0, 1) := by decide +kernel
theorem dX11_fits_5 : decode cX11_fits 5 = .ok (.getfield 166, 3) := by decide +kernel
theorem dX11_fits_8 : decode cX11_fits 8 = .ok (.ifCond .ne 9, 3) := by decide +kernel
theorem dX11_fits_11 : decode cX11_fits 11 = .ok (.aload_n 0, 1) := by decide +kernel
theorem dX11_fits_12 : decode cX11_fits 12 = .ok (.iconst 1, 1) := by decide +kernel
theorem dX11_fits_13 : decode cX11_fits 13 = .ok (.invokevirtual 156, 3) := by decide +kernel
theorem dX11_fits_16 : decode cX11_fits 16 = .ok (.ireturn, 1) := by decide +kernel
theorem dX11_fits_17 : decode cX11_fits 17 = .ok (.aload_n 0, 1) := by decide +kernel
theorem dX11_fits_18 : decode cX11_fits 18 = .ok (.iconst (-1), 1) := by decide +kernel
theorem dX11_fits_19 : decode cX11_fits 19 = .ok (.invokevirtual 358, 3) := by decide +kernel
theorem dX11_fits_22 : decode cX11_fits 22 = .ok (.aload_n 0, 1) := by decide +kernel
theorem dX11_fits_23 : decode cX11_fits 23 = .ok (.getfield 352, 3) := by decide +kernel
theorem dX11_fits_26 : decode cX11_fits 26 = .ok (.ireturn, 1) := by decide +kernel
theorem dX11_fitAt_0 : decode cX11_fitAt 0 = .ok (.aload_n 0, 1) := by decide +kernel
theorem dX11_fitAt_1 : decode cX11_fitAt 1 = .ok (.invokevirtual 153, 3) := by decide +kernel
theorem dX11_fitAt_4 : decode cX11_fitAt 4 = .ok (.aload_n 0, 1) := by decide +kernel
theorem dX11_fitAt_5 : decode cX11_fitAt 5 = .ok (.iload_n 2, 1) := by decide +kernel
theorem dX11_fitAt_6 : decode cX11_fitAt 6 = .ok (.invokevirtual 361, 3) := by decide +kernel
theorem dX11_fitAt_9 : decode cX11_fitAt 9 = .ok (.ifCond .eq 7, 3) := by decide +kernel
theorem dX11_fitAt_12 : decode cX11_fitAt 12 = .ok (.iload_n 1, 1) := by decide +kernel
theorem dX11_fitAt_13 : decode cX11_fitAt 13 = .ok (.ifCond .ge 9, 3) := by decide +kernel
theorem dX11_fitAt_16 : decode cX11_fitAt 16 = .ok (.aload_n 0, 1) := by decide +kernel
theorem dX11_fitAt_17 : decode cX11_fitAt 17 = .ok (.iconst 1, 1) := by decide +kernel
theorem dX11_fitAt_18 : decode cX11_fitAt 18 = .ok (.invokevirtual 156, 3) := by decide +kernel
theorem dX11_fitAt_21 : decode cX11_fitAt 21 = .ok (.ireturn, 1) := by decide +kernel
theorem dX11_fitAt_22 : decode cX11_fitAt 22 = .ok (.aload_n 0, 1) := by decide +kernel
theorem dX11_fitAt_23 : decode cX11_fitAt 23 = .ok (.iload_n 1, 1) := by decide +kernel
theorem dX11_fitAt_24 : decode cX11_fitAt 24 = .ok (.invokevirtual 358, 3) := by decide +kernel
theorem dX11_fitAt_27 : decode cX11_fitAt 27 = .ok (.iload_n 1, 1) := by decide +kernel
theorem dX11_fitAt_28 : decode cX11_fitAt 28 = .ok (.aload_n 0, 1) := by decide +kernel
theorem dX11_fitAt_29 : decode cX11_fitAt 29 = .ok (.getfield 352, 3) := by decide +kernel
theorem dX11_fitAt_32 : decode cX11_fitAt 32 = .ok (.if_icmp .ge 12, 3) := by decide +kernel
theorem dX11_fitAt_35 : decode cX11_fitAt 35 = .ok (.aload_n 0, 1) := by decide +kernel
theorem dX11_fitAt_36 : decode cX11_fitAt 36 = .ok (.getfield 44, 3) := by decide +kernel
theorem dX11_fitAt_39 : decode cX11_fitAt 39 = .ok (.iload_n 2, 1) := by decide +kernel
theorem dX11_fitAt_40 : decode cX11_fitAt 40 = .ok (.iaload, 1) := by decide +kernel
theorem dX11_fitAt_41 : decode cX11_fitAt 41 = .ok (.goto 8, 3) := by decide +kernel
theorem dX11_fitAt_44 : decode cX11_fitAt 44 = .ok (.aload_n 0, 1) := by decide +kernel
theorem dX11_fitAt_45 : decode cX11_fitAt 45 = .ok (.iconst 1, 1) := by decide +kernel
theorem dX11_fitAt_46 : decode cX11_fitAt 46 = .ok (.invokevirtual 156, 3) := by decide +kernel
theorem dX11_fitAt_49 : decode cX11_fitAt 49 = .ok (.ireturn, 1) := by decide +kernel
theorem dX11_could_0 : decode cX11_could 0 = .ok (.aload_n 0, 1) := by decide +kernel
theorem dX11_could_1 : decode cX11_could 1 = .ok (.invokevirtual 153, 3) := by decide +kernel
theorem dX11_could_4 : decode cX11_could 4 = .ok (.aload_n 0, 1) := by decide +kernel
theorem dX11_could_5 : decode cX11_could 5 = .ok (.iload_n 1, 1) := by decide +kernel
theorem dX11_could_6 : decode cX11_could 6 = .ok (.invokevirtual 361, 3) := by decide +kernel
theorem dX11_could_9 : decode cX11_could 9 = .ok (.ifCond .ne 9, 3) := by decide +kernel
theorem dX11_could_12 : decode cX11_could 12 = .ok (.aload_n 0, 1) := by decide +kernel
theorem dX11_could_13 : decode cX11_could 13 = .ok (.iconst 1, 1) := by decide +kernel
theorem dX11_could_14 : decode cX11_could 14 = .ok (.invokevirtual 156, 3) := by decide +kernel
theorem dX11_could_17 : decode cX11_could 17 = .ok (.ireturn, 1) := by decide +kernel
theorem dX11_could_18 : decode cX11_could 18 = .ok (.aload_n 0, 1) := by decide +kernel
theorem dX11_could_19 : decode cX11_could 19 = .ok (.iconst (-1), 1) := by decide +kernel
theorem dX11_could_20 : decode cX11_could 20 = .ok (.invokevirtual 358, 3) := by decide +kernel
theorem dX11_could_23 : decode cX11_could 23 = .ok (.iconst 0, 1) := by decide +kernel
theorem dX11_could_24 : decode cX11_could 24 = .ok (.istore_n 2, 1) := by decide +kernel
theorem dX11_could_25 : decode cX11_could 25 = .ok (.iconst 0, 1) := by decide +kernel
theorem dX11_could_26 : decode cX11_could 26 = .ok (.istore_n 3, 1) := by decide +kernel
theorem dX11_could_27 : decode cX11_could 27 = .ok (.iload_n 3, 1) := by decide +kernel
theorem dX11_could_28 : decode cX11_could 28 = .ok (.aload_n 0, 1) := by decide +kernel
theorem dX11_could_29 : decode cX11_could 29 = .ok (.getfield 20, 3) := by decide +kernel
theorem dX11_could_32 : decode cX11_could 32 = .ok (.iconst 3, 1) := by decide +kernel
theorem dX11_could_33 : decode cX11_could 33 = .ok (.iaload, 1) := by decide +kernel
theorem dX11_could_34 : decode cX11_could 34 = .ok (.if_icmp .ge 33, 3) := by decide +kernel
theorem dX11_could_37 : decode cX11_could 37 = .ok (.iload_n 2, 1) := by decide +kernel
theorem dX11_could_38 : decode cX11_could 38 = .ok (.aload_n 0, 1) := by decide +kernel
theorem dX11_could_39 : decode cX11_could 39 = .ok (.getfield 47, 3) := by decide +kernel
theorem dX11_could_42 : decode cX11_could 42 = .ok (.bipush 6, 2) := by decide +kernel
theorem dX11_could_44 : decode cX11_could 44 = .ok (.iload_n 1, 1) := by decide +kernel
theorem dX11_could_45 : decode cX11_could 45 = .ok (.imul, 1) := by decide +kernel
theorem dX11_could_46 : decode cX11_could 46 = .ok (.iload_n 3, 1) := by decide +kernel
theorem dX11_could_47 : decode cX11_could 47 = .ok (.iadd, 1) := by decide +kernel
theorem dX11_could_48 : decode cX11_could 48 = .ok (.iaload, 1) := by decide +kernel
theorem dX11_could_49 : decode cX11_could 49 = .ok (.ifCond .le 9, 3) := by decide +kernel
theorem dX11_could_52 : decode cX11_could 52 = .ok (.iconst 1, 1) := by decide +kernel
theorem dX11_could_53 : decode cX11_could 53 = .ok (.iload_n 3, 1) := by decide +kernel
theorem dX11_could_54 : decode cX11_could 54 = .ok (.ishl, 1) := by decide +kernel
theorem dX11_could_55 : decode cX11_could 55 = .ok (.goto 4, 3) := by decide +kernel
theorem dX11_could_58 : decode cX11_could 58 = .ok (.iconst 0, 1) := by decide +kernel
theorem dX11_could_59 : decode cX11_could 59 = .ok (.ior, 1) := by decide +kernel
theorem dX11_could_60 : decode cX11_could 60 = .ok (.istore_n 2, 1) := by decide +kernel
theorem dX11_could_61 : decode cX11_could 61 = .ok (.iinc 3 1, 3) := by decide +kernel
theorem dX11_could_64 : decode cX11_could 64 = .ok (.goto (-37), 3) := by decide +kernel
theorem dX11_could_67 : decode cX11_could 67 = .ok (.iload_n 2, 1) := by decide +kernel
theorem dX11_could_68 : decode cX11_could 68 = .ok (.ireturn, 1) := by decide +kernel
theorem dX11_surely_0 : decode cX11_surely 0 = .ok (.aload_n 0, 1) := by decide +kernel
theorem dX11_surely_1 : decode cX11_surely 1 = .ok (.invokevirtual 153, 3) := by decide +kernel
theorem dX11_surely_4 : decode cX11_surely 4 = .ok (.aload_n 0, 1) := by decide +kernel
theorem dX11_surely_5 : decode cX11_surely 5 = .ok (.iload_n 1, 1) := by decide +kernel
theorem dX11_surely_6 : decode cX11_surely 6 = .ok (.invokevirtual 361, 3) := by decide +kernel
theorem dX11_surely_9 : decode cX11_surely 9 = .ok (.ifCond .ne 9, 3) := by decide +kernel
theorem dX11_surely_12 : decode cX11_surely 12 = .ok (.aload_n 0, 1) := by decide +kernel
theorem dX11_surely_13 : decode cX11_surely 13 = .ok (.iconst 1, 1) := by decide +kernel
theorem dX11_surely_14 : decode cX11_surely 14 = .ok (.invokevirtual 156, 3) := by decide +kernel
theorem dX11_surely_17 : decode cX11_surely 17 = .ok (.ireturn, 1) := by decide +kernel
theorem dX11_surely_18 : decode cX11_surely 18 = .ok (.aload_n 0, 1) := by decide +kernel
theorem dX11_surely_19 : decode cX11_surely 19 = .ok (.iconst (-1), 1) := by decide +kernel
theorem dX11_surely_20 : decode cX11_surely 20 = .ok (.invokevirtual 358, 3) := by decide +kernel
theorem dX11_surely_23 : decode cX11_surely 23 = .ok (.iconst 0, 1) := by decide +kernel
theorem dX11_surely_24 : decode cX11_surely 24 = .ok (.istore_n 2, 1) := by decide +kernel
theorem dX11_surely_25 : decode cX11_surely 25 = .ok (.iload_n 2, 1) := by decide +kernel
theorem dX11_surely_26 : decode cX11_surely 26 = .ok (.aload_n 0, 1) := by decide +kernel
theorem dX11_surely_27 : decode cX11_surely 27 = .ok (.getfield 20, 3) := by decide +kernel
theorem dX11_surely_30 : decode cX11_surely 30 = .ok (.iconst 3, 1) := by decide +kernel
theorem dX11_surely_31 : decode cX11_surely 31 = .ok (.iaload, 1) := by decide +kernel
theorem dX11_surely_32 : decode cX11_surely 32 = .ok (.if_icmp .ge 36, 3) := by decide +kernel
theorem dX11_surely_35 : decode cX11_surely 35 = .ok (.aload_n 0, 1) := by decide +kernel
theorem dX11_surely_36 : decode cX11_surely 36 = .ok (.getfield 352, 3) := by decide +kernel
theorem dX11_surely_39 : decode cX11_surely 39 = .ok (.ifCond .le 23, 3) := by decide +kernel
theorem dX11_surely_42 : decode cX11_surely 42 = .ok (.aload_n 0, 1) := by decide +kernel
theorem dX11_surely_43 : decode cX11_surely 43 = .ok (.getfield 47, 3) := by decide +kernel
theorem dX11_surely_46 : decode cX11_surely 46 = .ok (.bipush 6, 2) := by decide +kernel
theorem dX11_surely_48 : decode cX11_surely 48 = .ok (.iload_n 1, 1) := by decide +kernel
theorem dX11_surely_49 : decode cX11_surely 49 = .ok (.imul, 1) := by decide +kernel
theorem dX11_surely_50 : decode cX11_surely 50 = .ok (.iload_n 2, 1) := by decide +kernel
theorem dX11_surely_51 : decode cX11_surely 51 = .ok (.iadd, 1) := by decide +kernel
theorem dX11_surely_52 : decode cX11_surely 52 = .ok (.iaload, 1) := by decide +kernel
theorem dX11_surely_53 : decode cX11_surely 53 = .ok (.aload_n 0, 1) := by decide +kernel
theorem dX11_surely_54 : decode cX11_surely 54 = .ok (.getfield 352, 3) := by decide +kernel
theorem dX11_surely_57 : decode cX11_surely 57 = .ok (.if_icmp .ne 5, 3) := by decide +kernel
theorem dX11_surely_60 : decode cX11_surely 60 = .ok (.iload_n 2, 1) := by decide +kernel
theorem dX11_surely_61 : decode cX11_surely 61 = .ok (.ireturn, 1) := by decide +kernel
theorem dX11_surely_62 : decode cX11_surely 62 = .ok (.iinc 2 1, 3) := by decide +kernel
theorem dX11_surely_65 : decode cX11_surely 65 = .ok (.goto (-40), 3) := by decide +kernel
theorem dX11_surely_68 : decode cX11_surely 68 = .ok (.bipush (-2), 2) := by decide +kernel
theorem dX11_surely_70 : decode cX11_surely 70 = .ok (.ireturn, 1) := by decide +kernel
theorem dX11_lookOf_0 : decode cX11_lookOf 0 = .ok (.aload_n 0, 1) := by decide +kernel
theorem dX11_lookOf_1 : decode cX11_lookOf 1 = .ok (.iconst (-1), 1) := by decide +kernel
theorem dX11_lookOf_2 : decode cX11_lookOf 2 = .ok (.invokevirtual 358, 3) := by decide +kernel
theorem dX11_lookOf_5 : decode cX11_lookOf 5 = .ok (.bipush (-2), 2) := by decide +kernel
theorem dX11_lookOf_7 : decode cX11_lookOf 7 = .ok (.istore_n 1, 1) := by decide +kernel
theorem dX11_lookOf_8 : decode cX11_lookOf 8 = .ok (.aload_n 0, 1) := by decide +kernel
theorem dX11_lookOf_9 : decode cX11_lookOf 9 = .ok (.bipush (-2), 2) := by decide +kernel
theorem dX11_lookOf_11 : decode cX11_lookOf 11 = .ok (.putfield 364, 3) := by decide +kernel
theorem dX11_lookOf_14 : decode cX11_lookOf 14 = .ok (.iconst 0, 1) := by decide +kernel
theorem dX11_lookOf_15 : decode cX11_lookOf 15 = .ok (.istore_n 2, 1) := by decide +kernel
theorem dX11_lookOf_16 : decode cX11_lookOf 16 = .ok (.iload_n 2, 1) := by decide +kernel
theorem dX11_lookOf_17 : decode cX11_lookOf 17 = .ok (.bipush 41, 2) := by decide +kernel
theorem dX11_lookOf_19 : decode cX11_lookOf 19 = .ok (.aload_n 0, 1) := by decide +kernel
theorem dX11_lookOf_20 : decode cX11_lookOf 20 = .ok (.getfield 20, 3) := by decide +kernel
theorem dX11_lookOf_23 : decode cX11_lookOf 23 = .ok (.iconst 3, 1) := by decide +kernel
theorem dX11_lookOf_24 : decode cX11_lookOf 24 = .ok (.iaload, 1) := by decide +kernel
theorem dX11_lookOf_25 : decode cX11_lookOf 25 = .ok (.imul, 1) := by decide +kernel
theorem dX11_lookOf_26 : decode cX11_lookOf 26 = .ok (.if_icmp .ge 97, 3) := by decide +kernel
theorem dX11_lookOf_29 : decode cX11_lookOf 29 = .ok (.aload_n 0, 1) := by decide +kernel
theorem dX11_lookOf_30 : decode cX11_lookOf 30 = .ok (.getfield 352, 3) := by decide +kernel
theorem dX11_lookOf_33 : decode cX11_lookOf 33 = .ok (.ifCond .le 90, 3) := by decide +kernel
theorem dX11_lookOf_36 : decode cX11_lookOf 36 = .ok (.iconst 0, 1) := by decide +kernel
theorem dX11_lookOf_37 : decode cX11_lookOf 37 = .ok (.istore_n 3, 1) := by decide +kernel
theorem dX11_lookOf_38 : decode cX11_lookOf 38 = .ok (.iconst 0, 1) := by decide +kernel
theorem dX11_lookOf_39 : decode cX11_lookOf 39 = .ok (.istore 4, 2) := by decide +kernel
theorem dX11_lookOf_41 : decode cX11_lookOf 41 = .ok (.iload 4, 2) := by decide +kernel
theorem dX11_lookOf_43 : decode cX11_lookOf 43 = .ok (.iconst 3, 1) := by decide +kernel
theorem dX11_lookOf_44 : decode cX11_lookOf 44 = .ok (.if_icmp .gt 40, 3) := by decide +kernel
theorem dX11_lookOf_47 : decode cX11_lookOf 47 = .ok (.aload_n 0, 1) := by decide +kernel
theorem dX11_lookOf_48 : decode cX11_lookOf 48 = .ok (.getfield 50, 3) := by decide +kernel
theorem dX11_lookOf_51 : decode cX11_lookOf 51 = .ok (.iconst 4, 1) := by decide +kernel
theorem dX11_lookOf_52 : decode cX11_lookOf 52 = .ok (.iload_n 2, 1) := by decide +kernel
theorem dX11_lookOf_53 : decode cX11_lookOf 53 = .ok (.imul, 1) := by decide +kernel
theorem dX11_lookOf_54 : decode cX11_lookOf 54 = .ok (.iload 4, 2) := by decide +kernel
theorem dX11_lookOf_56 : decode cX11_lookOf 56 = .ok (.iadd, 1) := by decide +kernel
theorem dX11_lookOf_57 : decode cX11_lookOf 57 = .ok (.iaload, 1) := by decide +kernel
theorem dX11_lookOf_58 : decode cX11_lookOf 58 = .ok (.iload_n 3, 1) := by decide +kernel
theorem dX11_lookOf_59 : decode cX11_lookOf 59 = .ok (.if_icmp .le 17, 3) := by decide +kernel
theorem dX11_lookOf_62 : decode cX11_lookOf 62 = .ok (.aload_n 0, 1) := by decide +kernel
theorem dX11_lookOf_63 : decode cX11_lookOf 63 = .ok (.getfield 50, 3) := by decide +kernel
theorem dX11_lookOf_66 : decode cX11_lookOf 66 = .ok (.iconst 4, 1) := by decide +kernel
theorem dX11_lookOf_67 : decode cX11_lookOf 67 = .ok (.iload_n 2, 1) := by decide +kernel
theorem dX11_lookOf_68 : decode cX11_lookOf 68 = .ok (.imul, 1) := by decide +kernel
theorem dX11_lookOf_69 : decode cX11_lookOf 69 = .ok (.iload 4, 2) := by decide +kernel
theorem dX11_lookOf_71 : decode cX11_lookOf 71 = .ok (.iadd, 1) := by decide +kernel
theorem dX11_lookOf_72 : decode cX11_lookOf 72 = .ok (.iaload, 1) := by decide +kernel
theorem dX11_lookOf_73 : decode cX11_lookOf 73 = .ok (.goto 4, 3) := by decide +kernel
theorem dX11_lookOf_76 : decode cX11_lookOf 76 = .ok (.iload_n 3, 1) := by decide +kernel
theorem dX11_lookOf_77 : decode cX11_lookOf 77 = .ok (.istore_n 3, 1) := by decide +kernel
theorem dX11_lookOf_78 : decode cX11_lookOf 78 = .ok (.iinc 4 1, 3) := by decide +kernel
theorem dX11_lookOf_81 : decode cX11_lookOf 81 = .ok (.goto (-40), 3) := by decide +kernel
theorem dX11_lookOf_84 : decode cX11_lookOf 84 = .ok (.iload_n 1, 1) := by decide +kernel
theorem dX11_lookOf_85 : decode cX11_lookOf 85 = .ok (.ifCond .lt 14, 3) := by decide +kernel
theorem dX11_lookOf_88 : decode cX11_lookOf 88 = .ok (.iload_n 3, 1) := by decide +kernel
theorem dX11_lookOf_89 : decode cX11_lookOf 89 = .ok (.aload_n 0, 1) := by decide +kernel
theorem dX11_lookOf_90 : decode cX11_lookOf 90 = .ok (.getfield 364, 3) := by decide +kernel
theorem dX11_lookOf_93 : decode cX11_lookOf 93 = .ok (.if_icmp .lt 6, 3) := by decide +kernel
theorem dX11_lookOf_96 : decode cX11_lookOf 96 = .ok (.goto 21, 3) := by decide +kernel
theorem dX11_lookOf_99 : decode cX11_lookOf 99 = .ok (.bipush 100, 2) := by decide +kernel
theorem dX11_lookOf_101 : decode cX11_lookOf 101 = .ok (.iload_n 2, 1) := by decide +kernel
theorem dX11_lookOf_102 : decode cX11_lookOf 102 = .ok (.bipush 41, 2) := by decide +kernel
theorem dX11_lookOf_104 : decode cX11_lookOf 104 = .ok (.idiv, 1) := by decide +kernel
theorem dX11_lookOf_105 : decode cX11_lookOf 105 = .ok (.imul, 1) := by decide +kernel
theorem dX11_lookOf_106 : decode cX11_lookOf 106 = .ok (.iload_n 2, 1) := by decide +kernel
theorem dX11_lookOf_107 : decode cX11_lookOf 107 = .ok (.bipush 41, 2) := by decide +kernel
theorem dX11_lookOf_109 : decode cX11_lookOf 109 = .ok (.irem, 1) := by decide +kernel
theorem dX11_lookOf_110 : decode cX11_lookOf 110 = .ok (.iadd, 1) := by decide +kernel
theorem dX11_lookOf_111 : decode cX11_lookOf 111 = .ok (.istore_n 1, 1) := by decide +kernel
theorem dX11_lookOf_112 : decode cX11_lookOf 112 = .ok (.aload_n 0, 1) := by decide +kernel
theorem dX11_lookOf_113 : decode cX11_lookOf 113 = .ok (.iload_n 3, 1) := by decide +kernel
theorem dX11_lookOf_114 : decode cX11_lookOf 114 = .ok (.putfield 364, 3) := by decide +kernel
theorem dX11_lookOf_117 : decode cX11_lookOf 117 = .ok (.iinc 2 1, 3) := by decide +kernel
theorem dX11_lookOf_120 : decode cX11_lookOf 120 = .ok (.goto (-104), 3) := by decide +kernel
theorem dX11_lookOf_123 : decode cX11_lookOf 123 = .ok (.iload_n 1, 1) := by decide +kernel
theorem dX11_lookOf_124 : decode cX11_lookOf 124 = .ok (.ireturn, 1) := by decide +kernel
theorem dX11_look_0 : decode cX11_look 0 = .ok (.aload_n 0, 1) := by decide +kernel
theorem dX11_look_1 : decode cX11_look 1 = .ok (.invokevirtual 153, 3) := by decide +kernel
theorem dX11_look_4 : decode cX11_look 4 = .ok (.aload_n 0, 1) := by decide +kernel
theorem dX11_look_5 : decode cX11_look 5 = .ok (.getfield 166, 3) := by decide +kernel
theorem dX11_look_8 : decode cX11_look 8 = .ok (.ifCond .eq 10, 3) := by decide +kernel
theorem dX11_look_11 : decode cX11_look 11 = .ok (.aload_n 0, 1) := by decide +kernel
theorem dX11_look_12 : decode cX11_look 12 = .ok (.invokevirtual 367, 3) := by decide +kernel
theorem dX11_look_15 : decode cX11_look 15 = .ok (.goto 8, 3) := by decide +kernel
theorem dX11_look_18 : decode cX11_look 18 = .ok (.aload_n 0, 1) := by decide +kernel
theorem dX11_look_19 : decode cX11_look 19 = .ok (.iconst 1, 1) := by decide +kernel
theorem dX11_look_20 : decode cX11_look 20 = .ok (.invokevirtual 156, 3) := by decide +kernel
theorem dX11_look_23 : decode cX11_look 23 = .ok (.ireturn, 1) := by decide +kernel
theorem dX11_lookLeaves_0 : decode cX11_lookLeaves 0 = .ok (.aload_n 0, 1) := by decide +kernel
theorem dX11_lookLeaves_1 : decode cX11_lookLeaves 1 = .ok (.invokevirtual 153, 3) := by decide +kernel
theorem dX11_lookLeaves_4 : decode cX11_lookLeaves 4 = .ok (.aload_n 0, 1) := by decide +kernel
theorem dX11_lookLeaves_5 : decode cX11_lookLeaves 5 = .ok (.getfield 166, 3) := by decide +kernel
theorem dX11_lookLeaves_8 : decode cX11_lookLeaves 8 = .ok (.ifCond .ne 9, 3) := by decide +kernel
theorem dX11_lookLeaves_11 : decode cX11_lookLeaves 11 = .ok (.aload_n 0, 1) := by decide +kernel
theorem dX11_lookLeaves_12 : decode cX11_lookLeaves 12 = .ok (.iconst 1, 1) := by decide +kernel
theorem dX11_lookLeaves_13 : decode cX11_lookLeaves 13 = .ok (.invokevirtual 156, 3) := by decide +kernel
theorem dX11_lookLeaves_16 : decode cX11_lookLeaves 16 = .ok (.ireturn, 1) := by decide +kernel
theorem dX11_lookLeaves_17 : decode cX11_lookLeaves 17 = .ok (.aload_n 0, 1) := by decide +kernel
theorem dX11_lookLeaves_18 : decode cX11_lookLeaves 18 = .ok (.invokevirtual 367, 3) := by decide +kernel
theorem dX11_lookLeaves_21 : decode cX11_lookLeaves 21 = .ok (.pop, 1) := by decide +kernel
theorem dX11_lookLeaves_22 : decode cX11_lookLeaves 22 = .ok (.aload_n 0, 1) := by decide +kernel
theorem dX11_lookLeaves_23 : decode cX11_lookLeaves 23 = .ok (.getfield 364, 3) := by decide +kernel
theorem dX11_lookLeaves_26 : decode cX11_lookLeaves 26 = .ok (.ireturn, 1) := by decide +kernel
theorem dX11_judge_0 : decode cX11_judge 0 = .ok (.aload_n 0, 1) := by decide +kernel
theorem dX11_judge_1 : decode cX11_judge 1 = .ok (.invokevirtual 153, 3) := by decide +kernel
theorem dX11_judge_4 : decode cX11_judge 4 = .ok (.aload_n 0, 1) := by decide +kernel
theorem dX11_judge_5 : decode cX11_judge 5 = .ok (.getfield 166, 3) := by decide +kernel
theorem dX11_judge_8 : decode cX11_judge 8 = .ok (.ifCond .ne 9, 3) := by decide +kernel
theorem dX11_judge_11 : decode cX11_judge 11 = .ok (.aload_n 0, 1) := by decide +kernel
theorem dX11_judge_12 : decode cX11_judge 12 = .ok (.iconst 1, 1) := by decide +kernel
theorem dX11_judge_13 : decode cX11_judge 13 = .ok (.invokevirtual 156, 3) := by decide +kernel
theorem dX11_judge_16 : decode cX11_judge 16 = .ok (.ireturn, 1) := by decide +kernel
theorem dX11_judge_17 : decode cX11_judge 17 = .ok (.iconst 0, 1) := by decide +kernel
theorem dX11_judge_18 : decode cX11_judge 18 = .ok (.istore_n 1, 1) := by decide +kernel
theorem dX11_judge_19 : decode cX11_judge 19 = .ok (.iload_n 1, 1) := by decide +kernel
theorem dX11_judge_20 : decode cX11_judge 20 = .ok (.aload_n 0, 1) := by decide +kernel
theorem dX11_judge_21 : decode cX11_judge 21 = .ok (.getfield 20, 3) := by decide +kernel
theorem dX11_judge_24 : decode cX11_judge 24 = .ok (.bipush 6, 2) := by decide +kernel
theorem dX11_judge_26 : decode cX11_judge 26 = .ok (.iaload, 1) := by decide +kernel
theorem dX11_judge_27 : decode cX11_judge 27 = .ok (.if_icmp .ge 55, 3) := by decide +kernel
theorem dX11_judge_30 : decode cX11_judge 30 = .ok (.aload_n 0, 1) := by decide +kernel
theorem dX11_judge_31 : decode cX11_judge 31 = .ok (.getfield 20, 3) := by decide +kernel
theorem dX11_judge_34 : decode cX11_judge 34 = .ok (.bipush 60, 2) := by decide +kernel
theorem dX11_judge_36 : decode cX11_judge 36 = .ok (.iconst 3, 1) := by decide +kernel
theorem dX11_judge_37 : decode cX11_judge 37 = .ok (.iload_n 1, 1) := by decide +kernel
theorem dX11_judge_38 : decode cX11_judge 38 = .ok (.imul, 1) := by decide +kernel
theorem dX11_judge_39 : decode cX11_judge 39 = .ok (.iadd, 1) := by decide +kernel
theorem dX11_judge_40 : decode cX11_judge 40 = .ok (.iconst 2, 1) := by decide +kernel
theorem dX11_judge_41 : decode cX11_judge 41 = .ok (.iadd, 1) := by decide +kernel
theorem dX11_judge_42 : decode cX11_judge 42 = .ok (.iaload, 1) := by decide +kernel
theorem dX11_judge_43 : decode cX11_judge 43 = .ok (.aload_n 0, 1) := by decide +kernel
theorem dX11_judge_44 : decode cX11_judge 44 = .ok (.aload_n 0, 1) := by decide +kernel
theorem dX11_judge_45 : decode cX11_judge 45 = .ok (.getfield 20, 3) := by decide +kernel
theorem dX11_judge_48 : decode cX11_judge 48 = .ok (.bipush 60, 2) := by decide +kernel
theorem dX11_judge_50 : decode cX11_judge 50 = .ok (.iconst 3, 1) := by decide +kernel
theorem dX11_judge_51 : decode cX11_judge 51 = .ok (.iload_n 1, 1) := by decide +kernel
theorem dX11_judge_52 : decode cX11_judge 52 = .ok (.imul, 1) := by decide +kernel
theorem dX11_judge_53 : decode cX11_judge 53 = .ok (.iadd, 1) := by decide +kernel
theorem dX11_judge_54 : decode cX11_judge 54 = .ok (.iaload, 1) := by decide +kernel
theorem dX11_judge_55 : decode cX11_judge 55 = .ok (.aload_n 0, 1) := by decide +kernel
theorem dX11_judge_56 : decode cX11_judge 56 = .ok (.getfield 20, 3) := by decide +kernel
theorem dX11_judge_59 : decode cX11_judge 59 = .ok (.bipush 60, 2) := by decide +kernel
theorem dX11_judge_61 : decode cX11_judge 61 = .ok (.iconst 3, 1) := by decide +kernel
theorem dX11_judge_62 : decode cX11_judge 62 = .ok (.iload_n 1, 1) := by decide +kernel
theorem dX11_judge_63 : decode cX11_judge 63 = .ok (.imul, 1) := by decide +kernel
theorem dX11_judge_64 : decode cX11_judge 64 = .ok (.iadd, 1) := by decide +kernel
theorem dX11_judge_65 : decode cX11_judge 65 = .ok (.iconst 1, 1) := by decide +kernel
theorem dX11_judge_66 : decode cX11_judge 66 = .ok (.iadd, 1) := by decide +kernel
theorem dX11_judge_67 : decode cX11_judge 67 = .ok (.iaload, 1) := by decide +kernel
theorem dX11_judge_68 : decode cX11_judge 68 = .ok (.invokevirtual 346, 3) := by decide +kernel
theorem dX11_judge_71 : decode cX11_judge 71 = .ok (.if_icmp .ge 5, 3) := by decide +kernel
theorem dX11_judge_74 : decode cX11_judge 74 = .ok (.iload_n 1, 1) := by decide +kernel
theorem dX11_judge_75 : decode cX11_judge 75 = .ok (.ireturn, 1) := by decide +kernel
theorem dX11_judge_76 : decode cX11_judge 76 = .ok (.iinc 1 1, 3) := by decide +kernel
theorem dX11_judge_79 : decode cX11_judge 79 = .ok (.goto (-60), 3) := by decide +kernel
theorem dX11_judge_82 : decode cX11_judge 82 = .ok (.bipush (-2), 2) := by decide +kernel
theorem dX11_judge_84 : decode cX11_judge 84 = .ok (.ireturn, 1) := by decide +kernel
theorem dX11_hasBy_0 : decode cX11_hasBy 0 = .ok (.iload_n 1, 1) := by decide +kernel
theorem dX11_hasBy_1 : decode cX11_hasBy 1 = .ok (.ifCond .eq 15, 3) := by decide +kernel
theorem dX11_hasBy_4 : decode cX11_hasBy 4 = .ok (.iload_n 2, 1) := by decide +kernel
theorem dX11_hasBy_5 : decode cX11_hasBy 5 = .ok (.ifCond .eq 7, 3) := by decide +kernel
theorem dX11_hasBy_8 : decode cX11_hasBy 8 = .ok (.iconst 1, 1) := by decide +kernel
theorem dX11_hasBy_9 : decode cX11_hasBy 9 = .ok (.goto 16, 3) := by decide +kernel
theorem dX11_hasBy_12 : decode cX11_hasBy 12 = .ok (.iload_n 0, 1) := by decide +kernel
theorem dX11_hasBy_13 : decode cX11_hasBy 13 = .ok (.goto 12, 3) := by decide +kernel
theorem dX11_hasBy_16 : decode cX11_hasBy 16 = .ok (.iload_n 2, 1) := by decide +kernel
theorem dX11_hasBy_17 : decode cX11_hasBy 17 = .ok (.ifCond .eq 7, 3) := by decide +kernel
theorem dX11_hasBy_20 : decode cX11_hasBy 20 = .ok (.iconst 0, 1) := by decide +kernel
theorem dX11_hasBy_21 : decode cX11_hasBy 21 = .ok (.goto 4, 3) := by decide +kernel
theorem dX11_hasBy_24 : decode cX11_hasBy 24 = .ok (.iconst 3, 1) := by decide +kernel
theorem dX11_hasBy_25 : decode cX11_hasBy 25 = .ok (.ireturn, 1) := by decide +kernel
theorem dX11_sends_0 : decode cX11_sends 0 = .ok (.aload_n 0, 1) := by decide +kernel
theorem dX11_sends_1 : decode cX11_sends 1 = .ok (.invokevirtual 153, 3) := by decide +kernel
theorem dX11_sends_4 : decode cX11_sends 4 = .ok (.aload_n 0, 1) := by decide +kernel
theorem dX11_sends_5 : decode cX11_sends 5 = .ok (.aload_n 0, 1) := by decide +kernel
theorem dX11_sends_6 : decode cX11_sends 6 = .ok (.getfield 166, 3) := by decide +kernel
theorem dX11_sends_9 : decode cX11_sends 9 = .ok (.iload_n 1, 1) := by decide +kernel
theorem dX11_sends_10 : decode cX11_sends 10 = .ok (.bipush 9, 2) := by decide +kernel
theorem dX11_sends_12 : decode cX11_sends 12 = .ok (.invokevirtual 298, 3) := by decide +kernel
theorem dX11_sends_15 : decode cX11_sends 15 = .ok (.istore 5, 2) := by decide +kernel
theorem dX11_sends_17 : decode cX11_sends 17 = .ok (.iload 5, 2) := by decide +kernel
theorem dX11_sends_19 : decode cX11_sends 19 = .ok (.ifCond .eq 12, 3) := by decide +kernel
theorem dX11_sends_22 : decode cX11_sends 22 = .ok (.aload_n 0, 1) := by decide +kernel
theorem dX11_sends_23 : decode cX11_sends 23 = .ok (.iload 5, 2) := by decide +kernel
theorem dX11_sends_25 : decode cX11_sends 25 = .ok (.invokevirtual 156, 3) := by decide +kernel
theorem dX11_sends_28 : decode cX11_sends 28 = .ok (.goto 23, 3) := by decide +kernel
theorem dX11_sends_31 : decode cX11_sends 31 = .ok (.iload 4, 2) := by decide +kernel
theorem dX11_sends_33 : decode cX11_sends 33 = .ok (.ifCond .eq 12, 3) := by decide +kernel
theorem dX11_sends_36 : decode cX11_sends 36 = .ok (.iload_n 1, 1) := by decide +kernel
theorem dX11_sends_37 : decode cX11_sends 37 = .ok (.iload_n 3, 1) := by decide +kernel
theorem dX11_sends_38 : decode cX11_sends 38 = .ok (.iload_n 2, 1) := by decide +kernel
theorem dX11_sends_39 : decode cX11_sends 39 = .ok (.invokestatic 370, 3) := by decide +kernel
theorem dX11_sends_42 : decode cX11_sends 42 = .ok (.goto 9, 3) := by decide +kernel
theorem dX11_sends_45 : decode cX11_sends 45 = .ok (.iload_n 1, 1) := by decide +kernel
theorem dX11_sends_46 : decode cX11_sends 46 = .ok (.iload_n 2, 1) := by decide +kernel
theorem dX11_sends_47 : decode cX11_sends 47 = .ok (.iload_n 3, 1) := by decide +kernel
theorem dX11_sends_48 : decode cX11_sends 48 = .ok (.invokestatic 370, 3) := by decide +kernel
theorem dX11_sends_51 : decode cX11_sends 51 = .ok (.ireturn, 1) := by decide +kernel
theorem dX11_isRest_0 : decode cX11_isRest 0 = .ok (.iload_n 0, 1) := by decide +kernel
theorem dX11_isRest_1 : decode cX11_isRest 1 = .ok (.iload_n 1, 1) := by decide +kernel
theorem dX11_isRest_2 : decode cX11_isRest 2 = .ok (.ifCond .ne 7, 3) := by decide +kernel
theorem dX11_isRest_5 : decode cX11_isRest 5 = .ok (.iconst 1, 1) := by decide +kernel
theorem dX11_isRest_6 : decode cX11_isRest 6 = .ok (.goto 4, 3) := by decide +kernel
theorem dX11_isRest_9 : decode cX11_isRest 9 = .ok (.iconst 0, 1) := by decide +kernel
theorem dX11_isRest_10 : decode cX11_isRest 10 = .ok (.iload_n 2, 1) := by decide +kernel
theorem dX11_isRest_11 : decode cX11_isRest 11 = .ok (.invokestatic 370, 3) := by decide +kernel
theorem dX11_isRest_14 : decode cX11_isRest 14 = .ok (.iload_n 0, 1) := by decide +kernel
theorem dX11_isRest_15 : decode cX11_isRest 15 = .ok (.iload_n 1, 1) := by decide +kernel
theorem dX11_isRest_16 : decode cX11_isRest 16 = .ok (.iload_n 2, 1) := by decide +kernel
theorem dX11_isRest_17 : decode cX11_isRest 17 = .ok (.invokestatic 370, 3) := by decide +kernel
theorem dX11_isRest_20 : decode cX11_isRest 20 = .ok (.if_icmp .gt 30, 3) := by decide +kernel
theorem dX11_isRest_23 : decode cX11_isRest 23 = .ok (.iload_n 0, 1) := by decide +kernel
theorem dX11_isRest_24 : decode cX11_isRest 24 = .ok (.iload_n 2, 1) := by decide +kernel
theorem dX11_isRest_25 : decode cX11_isRest 25 = .ok (.ifCond .ne 7, 3) := by decide +kernel
theorem dX11_isRest_28 : decode cX11_isRest 28 = .ok (.iconst 1, 1) := by decide +kernel
theorem dX11_isRest_29 : decode cX11_isRest 29 = .ok (.goto 4, 3) := by decide +kernel
theorem dX11_isRest_32 : decode cX11_isRest 32 = .ok (.iconst 0, 1) := by decide +kernel
theorem dX11_isRest_33 : decode cX11_isRest 33 = .ok (.iload_n 1, 1) := by decide +kernel
theorem dX11_isRest_34 : decode cX11_isRest 34 = .ok (.invokestatic 370, 3) := by decide +kernel
theorem dX11_isRest_37 : decode cX11_isRest 37 = .ok (.iload_n 0, 1) := by decide +kernel
theorem dX11_isRest_38 : decode cX11_isRest 38 = .ok (.iload_n 2, 1) := by decide +kernel
theorem dX11_isRest_39 : decode cX11_isRest 39 = .ok (.iload_n 1, 1) := by decide +kernel
theorem dX11_isRest_40 : decode cX11_isRest 40 = .ok (.invokestatic 370, 3) := by decide +kernel
theorem dX11_isRest_43 : decode cX11_isRest 43 = .ok (.if_icmp .gt 7, 3) := by decide +kernel
theorem dX11_isRest_46 : decode cX11_isRest 46 = .ok (.iconst 1, 1) := by decide +kernel
theorem dX11_isRest_47 : decode cX11_isRest 47 = .ok (.goto 4, 3) := by decide +kernel
theorem dX11_isRest_50 : decode cX11_isRest 50 = .ok (.iconst 0, 1) := by decide +kernel
theorem dX11_isRest_51 : decode cX11_isRest 51 = .ok (.ireturn, 1) := by decide +kernel
theorem dX11_seekRests_0 : decode cX11_seekRests 0 = .ok (.iconst 0, 1) := by decide +kernel
theorem dX11_seekRests_1 : decode cX11_seekRests 1 = .ok (.istore_n 2, 1) := by decide +kernel
theorem dX11_seekRests_2 : decode cX11_seekRests 2 = .ok (.aload_n 0, 1) := by decide +kernel
theorem dX11_seekRests_3 : decode cX11_seekRests 3 = .ok (.bipush (-2), 2) := by decide +kernel
theorem dX11_seekRests_5 : decode cX11_seekRests 5 = .ok (.putfield 374, 3) := by decide +kernel
theorem dX11_seekRests_8 : decode cX11_seekRests 8 = .ok (.iconst 0, 1) := by decide +kernel
theorem dX11_seekRests_9 : decode cX11_seekRests 9 = .ok (.istore_n 3, 1) := by decide +kernel
theorem dX11_seekRests_10 : decode cX11_seekRests 10 = .ok (.iload_n 3, 1) := by decide +kernel
theorem dX11_seekRests_11 : decode cX11_seekRests 11 = .ok (.iconst 4, 1) := by decide +kernel
theorem dX11_seekRests_12 : decode cX11_seekRests 12 = .ok (.if_icmp .ge 62, 3) := by decide +kernel
theorem dX11_seekRests_15 : decode cX11_seekRests 15 = .ok (.iload_n 1, 1) := by decide +kernel
theorem dX11_seekRests_16 : decode cX11_seekRests 16 = .ok (.iload_n 3, 1) := by decide +kernel
theorem dX11_seekRests_17 : decode cX11_seekRests 17 = .ok (.iconst 1, 1) := by decide +kernel
theorem dX11_seekRests_18 : decode cX11_seekRests 18 = .ok (.if_icmp .le 7, 3) := by decide +kernel
theorem dX11_seekRests_21 : decode cX11_seekRests 21 = .ok (.iconst 1, 1) := by decide +kernel
theorem dX11_seekRests_22 : decode cX11_seekRests 22 = .ok (.goto 4, 3) := by decide +kernel
theorem dX11_seekRests_25 : decode cX11_seekRests 25 = .ok (.iconst 0, 1) := by decide +kernel
theorem dX11_seekRests_26 : decode cX11_seekRests 26 = .ok (.iload_n 3, 1) := by decide +kernel
theorem dX11_seekRests_27 : decode cX11_seekRests 27 = .ok (.iconst 2, 1) := by decide +kernel
theorem dX11_seekRests_28 : decode cX11_seekRests 28 = .ok (.irem, 1) := by decide +kernel
theorem dX11_seekRests_29 : decode cX11_seekRests 29 = .ok (.iconst 1, 1) := by decide +kernel
theorem dX11_seekRests_30 : decode cX11_seekRests 30 = .ok (.if_icmp .ne 7, 3) := by decide +kernel
theorem dX11_seekRests_33 : decode cX11_seekRests 33 = .ok (.iconst 1, 1) := by decide +kernel
theorem dX11_seekRests_34 : decode cX11_seekRests 34 = .ok (.goto 4, 3) := by decide +kernel
theorem dX11_seekRests_37 : decode cX11_seekRests 37 = .ok (.iconst 0, 1) := by decide +kernel
theorem dX11_seekRests_38 : decode cX11_seekRests 38 = .ok (.invokestatic 377, 3) := by decide +kernel
theorem dX11_seekRests_41 : decode cX11_seekRests 41 = .ok (.ifCond .ne 6, 3) := by decide +kernel
theorem dX11_seekRests_44 : decode cX11_seekRests 44 = .ok (.goto 24, 3) := by decide +kernel
theorem dX11_seekRests_47 : decode cX11_seekRests 47 = .ok (.iload_n 2, 1) := by decide +kernel
theorem dX11_seekRests_48 : decode cX11_seekRests 48 = .ok (.ifCond .ne 17, 3) := by decide +kernel
theorem dX11_seekRests_51 : decode cX11_seekRests 51 = .ok (.aload_n 0, 1) := by decide +kernel
theorem dX11_seekRests_52 : decode cX11_seekRests 52 = .ok (.bipush 10, 2) := by decide +kernel
theorem dX11_seekRests_54 : decode cX11_seekRests 54 = .ok (.iload_n 3, 1) := by decide +kernel
theorem dX11_seekRests_55 : decode cX11_seekRests 55 = .ok (.iconst 2, 1) := by decide +kernel
theorem dX11_seekRests_56 : decode cX11_seekRests 56 = .ok (.idiv, 1) := by decide +kernel
theorem dX11_seekRests_57 : decode cX11_seekRests 57 = .ok (.imul, 1) := by decide +kernel
theorem dX11_seekRests_58 : decode cX11_seekRests 58 = .ok (.iload_n 3, 1) := by decide +kernel
theorem dX11_seekRests_59 : decode cX11_seekRests 59 = .ok (.iconst 2, 1) := by decide +kernel
theorem dX11_seekRests_60 : decode cX11_seekRests 60 = .ok (.irem, 1) := by decide +kernel
theorem dX11_seekRests_61 : decode cX11_seekRests 61 = .ok (.iadd, 1) := by decide +kernel
theorem dX11_seekRests_62 : decode cX11_seekRests 62 = .ok (.putfield 374, 3) := by decide +kernel
theorem dX11_seekRests_65 : decode cX11_seekRests 65 = .ok (.iinc 2 1, 3) := by decide +kernel
theorem dX11_seekRests_68 : decode cX11_seekRests 68 = .ok (.iinc 3 1, 3) := by decide +kernel
theorem dX11_seekRests_71 : decode cX11_seekRests 71 = .ok (.goto (-61), 3) := by decide +kernel
theorem dX11_seekRests_74 : decode cX11_seekRests 74 = .ok (.iload_n 2, 1) := by decide +kernel
theorem dX11_seekRests_75 : decode cX11_seekRests 75 = .ok (.ireturn, 1) := by decide +kernel
theorem dX11_rests_0 : decode cX11_rests 0 = .ok (.aload_n 0, 1) := by decide +kernel
theorem dX11_rests_1 : decode cX11_rests 1 = .ok (.invokevirtual 153, 3) := by decide +kernel
theorem dX11_rests_4 : decode cX11_rests 4 = .ok (.aload_n 0, 1) := by decide +kernel
theorem dX11_rests_5 : decode cX11_rests 5 = .ok (.aload_n 0, 1) := by decide +kernel
theorem dX11_rests_6 : decode cX11_rests 6 = .ok (.getfield 166, 3) := by decide +kernel
theorem dX11_rests_9 : decode cX11_rests 9 = .ok (.iload_n 1, 1) := by decide +kernel
theorem dX11_rests_10 : decode cX11_rests 10 = .ok (.bipush 9, 2) := by decide +kernel
theorem dX11_rests_12 : decode cX11_rests 12 = .ok (.invokevirtual 298, 3) := by decide +kernel
theorem dX11_rests_15 : decode cX11_rests 15 = .ok (.istore_n 2, 1) := by decide +kernel
theorem dX11_rests_16 : decode cX11_rests 16 = .ok (.iload_n 2, 1) := by decide +kernel
theorem dX11_rests_17 : decode cX11_rests 17 = .ok (.ifCond .eq 11, 3) := by decide +kernel
theorem dX11_rests_20 : decode cX11_rests 20 = .ok (.aload_n 0, 1) := by decide +kernel
theorem dX11_rests_21 : decode cX11_rests 21 = .ok (.iload_n 2, 1) := by decide +kernel
theorem dX11_rests_22 : decode cX11_rests 22 = .ok (.invokevirtual 156, 3) := by decide +kernel
theorem dX11_rests_25 : decode cX11_rests 25 = .ok (.goto 8, 3) := by decide +kernel
theorem dX11_rests_28 : decode cX11_rests 28 = .ok (.aload_n 0, 1) := by decide +kernel
theorem dX11_rests_29 : decode cX11_rests 29 = .ok (.iload_n 1, 1) := by decide +kernel
theorem dX11_rests_30 : decode cX11_rests 30 = .ok (.invokevirtual 381, 3) := by decide +kernel
theorem dX11_rests_33 : decode cX11_rests 33 = .ok (.ireturn, 1) := by decide +kernel
theorem dX11_rest_0 : decode cX11_rest 0 = .ok (.aload_n 0, 1) := by decide +kernel
theorem dX11_rest_1 : decode cX11_rest 1 = .ok (.invokevirtual 153, 3) := by decide +kernel
theorem dX11_rest_4 : decode cX11_rest 4 = .ok (.aload_n 0, 1) := by decide +kernel
theorem dX11_rest_5 : decode cX11_rest 5 = .ok (.aload_n 0, 1) := by decide +kernel
theorem dX11_rest_6 : decode cX11_rest 6 = .ok (.getfield 166, 3) := by decide +kernel
theorem dX11_rest_9 : decode cX11_rest 9 = .ok (.iload_n 1, 1) := by decide +kernel
theorem dX11_rest_10 : decode cX11_rest 10 = .ok (.bipush 9, 2) := by decide +kernel
theorem dX11_rest_12 : decode cX11_rest 12 = .ok (.invokevirtual 298, 3) := by decide +kernel
theorem dX11_rest_15 : decode cX11_rest 15 = .ok (.istore_n 2, 1) := by decide +kernel
theorem dX11_rest_16 : decode cX11_rest 16 = .ok (.iload_n 2, 1) := by decide +kernel
theorem dX11_rest_17 : decode cX11_rest 17 = .ok (.ifCond .eq 9, 3) := by decide +kernel
theorem dX11_rest_20 : decode cX11_rest 20 = .ok (.aload_n 0, 1) := by decide +kernel
theorem dX11_rest_21 : decode cX11_rest 21 = .ok (.iload_n 2, 1) := by decide +kernel
theorem dX11_rest_22 : decode cX11_rest 22 = .ok (.invokevirtual 156, 3) := by decide +kernel
theorem dX11_rest_25 : decode cX11_rest 25 = .ok (.ireturn, 1) := by decide +kernel
theorem dX11_rest_26 : decode cX11_rest 26 = .ok (.aload_n 0, 1) := by decide +kernel
theorem dX11_rest_27 : decode cX11_rest 27 = .ok (.iload_n 1, 1) := by decide +kernel
theorem dX11_rest_28 : decode cX11_rest 28 = .ok (.invokevirtual 381, 3) := by decide +kernel
theorem dX11_rest_31 : decode cX11_rest 31 = .ok (.pop, 1) := by decide +kernel
theorem dX11_rest_32 : decode cX11_rest 32 = .ok (.aload_n 0, 1) := by decide +kernel
theorem dX11_rest_33 : decode cX11_rest 33 = .ok (.getfield 374, 3) := by decide +kernel
theorem dX11_rest_36 : decode cX11_rest 36 = .ok (.ireturn, 1) := by decide +kernel
theorem dX11_safe_0 : decode cX11_safe 0 = .ok (.aload_n 0, 1) := by decide +kernel
theorem dX11_safe_1 : decode cX11_safe 1 = .ok (.invokevirtual 153, 3) := by decide +kernel
theorem dX11_safe_4 : decode cX11_safe 4 = .ok (.aload_n 0, 1) := by decide +kernel
theorem dX11_safe_5 : decode cX11_safe 5 = .ok (.aload_n 0, 1) := by decide +kernel
theorem dX11_safe_6 : decode cX11_safe 6 = .ok (.iload_n 1, 1) := by decide +kernel
theorem dX11_safe_7 : decode cX11_safe 7 = .ok (.invokevirtual 286, 3) := by decide +kernel
theorem dX11_safe_10 : decode cX11_safe 10 = .ok (.iload_n 2, 1) := by decide +kernel
theorem dX11_safe_11 : decode cX11_safe 11 = .ok (.bipush 8, 2) := by decide +kernel
theorem dX11_safe_13 : decode cX11_safe 13 = .ok (.invokevirtual 298, 3) := by decide +kernel
theorem dX11_safe_16 : decode cX11_safe 16 = .ok (.istore 4, 2) := by decide +kernel
theorem dX11_safe_18 : decode cX11_safe 18 = .ok (.iload 4, 2) := by decide +kernel
theorem dX11_safe_20 : decode cX11_safe 20 = .ok (.ifCond .ne 22, 3) := by decide +kernel
theorem dX11_safe_23 : decode cX11_safe 23 = .ok (.aload_n 0, 1) := by decide +kernel
theorem dX11_safe_24 : decode cX11_safe 24 = .ok (.iload_n 1, 1) := by decide +kernel
theorem dX11_safe_25 : decode cX11_safe 25 = .ok (.aload_n 0, 1) := by decide +kernel
theorem dX11_safe_26 : decode cX11_safe 26 = .ok (.getfield 26, 3) := by decide +kernel
theorem dX11_safe_29 : decode cX11_safe 29 = .ok (.bipush 20, 2) := by decide +kernel
theorem dX11_safe_31 : decode cX11_safe 31 = .ok (.iaload, 1) := by decide +kernel
theorem dX11_safe_32 : decode cX11_safe 32 = .ok (.invokevirtual 268, 3) := by decide +kernel
theorem dX11_safe_35 : decode cX11_safe 35 = .ok (.iconst 2, 1) := by decide +kernel
theorem dX11_safe_36 : decode cX11_safe 36 = .ok (.if_icmp .eq 6, 3) := by decide +kernel
theorem dX11_safe_39 : decode cX11_safe 39 = .ok (.iconst 5, 1) := by decide +kernel
theorem dX11_safe_40 : decode cX11_safe 40 = .ok (.istore 4, 2) := by decide +kernel
theorem dX11_safe_42 : decode cX11_safe 42 = .ok (.iload 4, 2) := by decide +kernel
theorem dX11_safe_44 : decode cX11_safe 44 = .ok (.ifCond .eq 13, 3) := by decide +kernel
theorem dX11_safe_47 : decode cX11_safe 47 = .ok (.aload_n 0, 1) := by decide +kernel
theorem dX11_safe_48 : decode cX11_safe 48 = .ok (.iload 4, 2) := by decide +kernel
theorem dX11_safe_50 : decode cX11_safe 50 = .ok (.invokevirtual 156, 3) := by decide +kernel
theorem dX11_safe_53 : decode cX11_safe 53 = .ok (.i2l, 1) := by decide +kernel
theorem dX11_safe_54 : decode cX11_safe 54 = .ok (.goto 28, 3) := by decide +kernel
theorem dX11_safe_57 : decode cX11_safe 57 = .ok (.bipush 100, 2) := by decide +kernel
theorem dX11_safe_59 : decode cX11_safe 59 = .ok (.aload_n 0, 1) := by decide +kernel
theorem dX11_safe_60 : decode cX11_safe 60 = .ok (.getfield 20, 3) := by decide +kernel
theorem dX11_safe_63 : decode cX11_safe 63 = .ok (.iconst 1, 1) := by decide +kernel
theorem dX11_safe_64 : decode cX11_safe 64 = .ok (.iaload, 1) := by decide +kernel
theorem dX11_safe_65 : decode cX11_safe 65 = .ok (.isub, 1) := by decide +kernel
theorem dX11_safe_66 : decode cX11_safe 66 = .ok (.i2l, 1) := by decide +kernel
theorem dX11_safe_67 : decode cX11_safe 67 = .ok (.iload_n 2, 1) := by decide +kernel
theorem dX11_safe_68 : decode cX11_safe 68 = .ok (.invokestatic 384, 3) := by decide +kernel
theorem dX11_safe_71 : decode cX11_safe 71 = .ok (.ldc2_w 388, 3) := by decide +kernel
theorem dX11_safe_74 : decode cX11_safe 74 = .ok (.iload_n 2, 1) := by decide +kernel
theorem dX11_safe_75 : decode cX11_safe 75 = .ok (.invokestatic 384, 3) := by decide +kernel
theorem dX11_safe_78 : decode cX11_safe 78 = .ok (.iload_n 3, 1) := by decide +kernel
theorem dX11_safe_79 : decode cX11_safe 79 = .ok (.invokestatic 390, 3) := by decide +kernel
theorem dX11_safe_82 : decode cX11_safe 82 = .ok (.lreturn, 1) := by decide +kernel
theorem dX11_left_0 : decode cX11_left 0 = .ok (.aload_n 0, 1) := by decide +kernel
theorem dX11_left_1 : decode cX11_left 1 = .ok (.invokevirtual 153, 3) := by decide +kernel
theorem dX11_left_4 : decode cX11_left 4 = .ok (.aload_n 0, 1) := by decide +kernel
theorem dX11_left_5 : decode cX11_left 5 = .ok (.aload_n 0, 1) := by decide +kernel
theorem dX11_left_6 : decode cX11_left 6 = .ok (.iload_n 1, 1) := by decide +kernel
theorem dX11_left_7 : decode cX11_left 7 = .ok (.invokevirtual 277, 3) := by decide +kernel
theorem dX11_left_10 : decode cX11_left 10 = .ok (.iload_n 2, 1) := by decide +kernel
theorem dX11_left_11 : decode cX11_left 11 = .ok (.bipush 7, 2) := by decide +kernel
theorem dX11_left_13 : decode cX11_left 13 = .ok (.invokevirtual 298, 3) := by decide +kernel
theorem dX11_left_16 : decode cX11_left 16 = .ok (.istore 4, 2) := by decide +kernel
theorem dX11_left_18 : decode cX11_left 18 = .ok (.iload 4, 2) := by decide +kernel
theorem dX11_left_20 : decode cX11_left 20 = .ok (.ifCond .eq 11, 3) := by decide +kernel
theorem dX11_left_23 : decode cX11_left 23 = .ok (.aload_n 0, 1) := by decide +kernel
theorem dX11_left_24 : decode cX11_left 24 = .ok (.iload 4, 2) := by decide +kernel
theorem dX11_left_26 : decode cX11_left 26 = .ok (.invokevirtual 156, 3) := by decide +kernel
theorem dX11_left_29 : decode cX11_left 29 = .ok (.i2l, 1) := by decide +kernel
theorem dX11_left_30 : decode cX11_left 30 = .ok (.lreturn, 1) := by decide +kernel
theorem dX11_left_31 : decode cX11_left 31 = .ok (.aload_n 0, 1) := by decide +kernel
theorem dX11_left_32 : decode cX11_left 32 = .ok (.iload_n 1, 1) := by decide +kernel
theorem dX11_left_33 : decode cX11_left 33 = .ok (.aload_n 0, 1) := by decide +kernel
theorem dX11_left_34 : decode cX11_left 34 = .ok (.getfield 26, 3) := by decide +kernel
theorem dX11_left_37 : decode cX11_left 37 = .ok (.bipush 20, 2) := by decide +kernel
theorem dX11_left_39 : decode cX11_left 39 = .ok (.iaload, 1) := by decide +kernel
theorem dX11_left_40 : decode cX11_left 40 = .ok (.invokevirtual 280, 3) := by decide +kernel
theorem dX11_left_43 : decode cX11_left 43 = .ok (.invokestatic 295, 3) := by decide +kernel
theorem dX11_left_46 : decode cX11_left 46 = .ok (.istore 5, 2) := by decide +kernel
theorem dX11_left_48 : decode cX11_left 48 = .ok (.iload_n 2, 1) := by decide +kernel
theorem dX11_left_49 : decode cX11_left 49 = .ok (.iload 5, 2) := by decide +kernel
theorem dX11_left_51 : decode cX11_left 51 = .ok (.if_icmp .le 10, 3) := by decide +kernel
theorem dX11_left_54 : decode cX11_left 54 = .ok (.lconst 0, 1) := by decide +kernel
theorem dX11_left_55 : decode cX11_left 55 = .ok (.lconst 1, 1) := by decide +kernel
theorem dX11_left_56 : decode cX11_left 56 = .ok (.iload_n 3, 1) := by decide +kernel
theorem dX11_left_57 : decode cX11_left 57 = .ok (.invokestatic 390, 3) := by decide +kernel
theorem dX11_left_60 : decode cX11_left 60 = .ok (.lreturn, 1) := by decide +kernel
theorem dX11_left_61 : decode cX11_left 61 = .ok (.lconst 1, 1) := by decide +kernel
theorem dX11_left_62 : decode cX11_left 62 = .ok (.lstore 6, 2) := by decide +kernel
theorem dX11_left_64 : decode cX11_left 64 = .ok (.iconst 0, 1) := by decide +kernel
theorem dX11_left_65 : decode cX11_left 65 = .ok (.istore 8, 2) := by decide +kernel
theorem dX11_left_67 : decode cX11_left 67 = .ok (.iload 8, 2) := by decide +kernel
theorem dX11_left_69 : decode cX11_left 69 = .ok (.iload_n 2, 1) := by decide +kernel
theorem dX11_left_70 : decode cX11_left 70 = .ok (.if_icmp .ge 26, 3) := by decide +kernel
theorem dX11_left_73 : decode cX11_left 73 = .ok (.lload 6, 2) := by decide +kernel
theorem dX11_left_75 : decode cX11_left 75 = .ok (.iload 5, 2) := by decide +kernel
theorem dX11_left_77 : decode cX11_left 77 = .ok (.iload 8, 2) := by decide +kernel
theorem dX11_left_79 : decode cX11_left 79 = .ok (.isub, 1) := by decide +kernel
theorem dX11_left_80 : decode cX11_left 80 = .ok (.i2l, 1) := by decide +kernel
theorem dX11_left_81 : decode cX11_left 81 = .ok (.lmul, 1) := by decide +kernel
theorem dX11_left_82 : decode cX11_left 82 = .ok (.iload 8, 2) := by decide +kernel
theorem dX11_left_84 : decode cX11_left 84 = .ok (.iconst 1, 1) := by decide +kernel
theorem dX11_left_85 : decode cX11_left 85 = .ok (.iadd, 1) := by decide +kernel
theorem dX11_left_86 : decode cX11_left 86 = .ok (.i2l, 1) := by decide +kernel
theorem dX11_left_87 : decode cX11_left 87 = .ok (.ldiv, 1) := by decide +kernel
theorem dX11_left_88 : decode cX11_left 88 = .ok (.lstore 6, 2) := by decide +kernel
theorem dX11_left_90 : decode cX11_left 90 = .ok (.iinc 8 1, 3) := by decide +kernel
theorem dX11_left_93 : decode cX11_left 93 = .ok (.goto (-26), 3) := by decide +kernel
theorem dX11_left_96 : decode cX11_left 96 = .ok (.lload 6, 2) := by decide +kernel
theorem dX11_left_98 : decode cX11_left 98 = .ok (.bipush 100, 2) := by decide +kernel
theorem dX11_left_100 : decode cX11_left 100 = .ok (.aload_n 0, 1) := by decide +kernel
theorem dX11_left_101 : decode cX11_left 101 = .ok (.getfield 20, 3) := by decide +kernel
theorem dX11_left_104 : decode cX11_left 104 = .ok (.iconst 1, 1) := by decide +kernel
theorem dX11_left_105 : decode cX11_left 105 = .ok (.iaload, 1) := by decide +kernel
theorem dX11_left_106 : decode cX11_left 106 = .ok (.isub, 1) := by decide +kernel
theorem dX11_left_107 : decode cX11_left 107 = .ok (.i2l, 1) := by decide +kernel
theorem dX11_left_108 : decode cX11_left 108 = .ok (.iload_n 2, 1) := by decide +kernel
theorem dX11_left_109 : decode cX11_left 109 = .ok (.invokestatic 384, 3) := by decide +kernel
theorem dX11_left_112 : decode cX11_left 112 = .ok (.lmul, 1) := by decide +kernel
theorem dX11_left_113 : decode cX11_left 113 = .ok (.aload_n 0, 1) := by decide +kernel
theorem dX11_left_114 : decode cX11_left 114 = .ok (.getfield 20, 3) := by decide +kernel
theorem dX11_left_117 : decode cX11_left 117 = .ok (.iconst 1, 1) := by decide +kernel
theorem dX11_left_118 : decode cX11_left 118 = .ok (.iaload, 1) := by decide +kernel
theorem dX11_left_119 : decode cX11_left 119 = .ok (.i2l, 1) := by decide +kernel
theorem dX11_left_120 : decode cX11_left 120 = .ok (.iload 5, 2) := by decide +kernel
theorem dX11_left_122 : decode cX11_left 122 = .ok (.iload_n 2, 1) := by decide +kernel
theorem dX11_left_123 : decode cX11_left 123 = .ok (.isub, 1) := by decide +kernel
theorem dX11_left_124 : decode cX11_left 124 = .ok (.invokestatic 384, 3) := by decide +kernel
theorem dX11_left_127 : decode cX11_left 127 = .ok (.lmul, 1) := by decide +kernel
theorem dX11_left_128 : decode cX11_left 128 = .ok (.ldc2_w 388, 3) := by decide +kernel
theorem dX11_left_131 : decode cX11_left 131 = .ok (.iload 5, 2) := by decide +kernel
theorem dX11_left_133 : decode cX11_left 133 = .ok (.invokestatic 384, 3) := by decide +kernel
theorem dX11_left_136 : decode cX11_left 136 = .ok (.iload_n 3, 1) := by decide +kernel
theorem dX11_left_137 : decode cX11_left 137 = .ok (.invokestatic 390, 3) := by decide +kernel
theorem dX11_left_140 : decode cX11_left 140 = .ok (.lreturn, 1) := by decide +kernel
theorem dX11_stays_0 : decode cX11_stays 0 = .ok (.aload_n 0, 1) := by decide +kernel
theorem dX11_stays_1 : decode cX11_stays 1 = .ok (.invokevirtual 153, 3) := by decide +kernel
theorem dX11_stays_4 : decode cX11_stays 4 = .ok (.aload_n 0, 1) := by decide +kernel
theorem dX11_stays_5 : decode cX11_stays 5 = .ok (.aload_n 0, 1) := by decide +kernel
theorem dX11_stays_6 : decode cX11_stays 6 = .ok (.getfield 166, 3) := by decide +kernel
theorem dX11_stays_9 : decode cX11_stays 9 = .ok (.iload_n 1, 1) := by decide +kernel
theorem dX11_stays_10 : decode cX11_stays 10 = .ok (.bipush 8, 2) := by decide +kernel
theorem dX11_stays_12 : decode cX11_stays 12 = .ok (.invokevirtual 298, 3) := by decide +kernel
theorem dX11_stays_15 : decode cX11_stays 15 = .ok (.istore_n 3, 1) := by decide +kernel
theorem dX11_stays_16 : decode cX11_stays 16 = .ok (.iload_n 3, 1) := by decide +kernel
theorem dX11_stays_17 : decode cX11_stays 17 = .ok (.ifCond .eq 10, 3) := by decide +kernel
theorem dX11_stays_20 : decode cX11_stays 20 = .ok (.aload_n 0, 1) := by decide +kernel
theorem dX11_stays_21 : decode cX11_stays 21 = .ok (.iload_n 3, 1) := by decide +kernel
theorem dX11_stays_22 : decode cX11_stays 22 = .ok (.invokevirtual 156, 3) := by decide +kernel
theorem dX11_stays_25 : decode cX11_stays 25 = .ok (.i2l, 1) := by decide +kernel
theorem dX11_stays_26 : decode cX11_stays 26 = .ok (.lreturn, 1) := by decide +kernel
theorem dX11_stays_27 : decode cX11_stays 27 = .ok (.lconst 0, 1) := by decide +kernel
theorem dX11_stays_28 : decode cX11_stays 28 = .ok (.lstore 4, 2) := by decide +kernel
theorem dX11_stays_30 : decode cX11_stays 30 = .ok (.iconst 1, 1) := by decide +kernel
theorem dX11_stays_31 : decode cX11_stays 31 = .ok (.istore 6, 2) := by decide +kernel
theorem dX11_stays_33 : decode cX11_stays 33 = .ok (.iload 6, 2) := by decide +kernel
theorem dX11_stays_35 : decode cX11_stays 35 = .ok (.iload_n 1, 1) := by decide +kernel
theorem dX11_stays_36 : decode cX11_stays 36 = .ok (.if_icmp .gt 40, 3) := by decide +kernel
theorem dX11_stays_39 : decode cX11_stays 39 = .ok (.lload 4, 2) := by decide +kernel
theorem dX11_stays_41 : decode cX11_stays 41 = .ok (.bipush 100, 2) := by decide +kernel
theorem dX11_stays_43 : decode cX11_stays 43 = .ok (.aload_n 0, 1) := by decide +kernel
theorem dX11_stays_44 : decode cX11_stays 44 = .ok (.getfield 20, 3) := by decide +kernel
theorem dX11_stays_47 : decode cX11_stays 47 = .ok (.iconst 1, 1) := by decide +kernel
theorem dX11_stays_48 : decode cX11_stays 48 = .ok (.iaload, 1) := by decide +kernel
theorem dX11_stays_49 : decode cX11_stays 49 = .ok (.isub, 1) := by decide +kernel
theorem dX11_stays_50 : decode cX11_stays 50 = .ok (.i2l, 1) := by decide +kernel
theorem dX11_stays_51 : decode cX11_stays 51 = .ok (.iload 6, 2) := by decide +kernel
theorem dX11_stays_53 : decode cX11_stays 53 = .ok (.invokestatic 384, 3) := by decide +kernel
theorem dX11_stays_56 : decode cX11_stays 56 = .ok (.ldc2_w 388, 3) := by decide +kernel
theorem dX11_stays_59 : decode cX11_stays 59 = .ok (.iload_n 1, 1) := by decide +kernel
theorem dX11_stays_60 : decode cX11_stays 60 = .ok (.iload 6, 2) := by decide +kernel
theorem dX11_stays_62 : decode cX11_stays 62 = .ok (.isub, 1) := by decide +kernel
theorem dX11_stays_63 : decode cX11_stays 63 = .ok (.invokestatic 384, 3) := by decide +kernel
theorem dX11_stays_66 : decode cX11_stays 66 = .ok (.lmul, 1) := by decide +kernel
theorem dX11_stays_67 : decode cX11_stays 67 = .ok (.ladd, 1) := by decide +kernel
theorem dX11_stays_68 : decode cX11_stays 68 = .ok (.lstore 4, 2) := by decide +kernel
theorem dX11_stays_70 : decode cX11_stays 70 = .ok (.iinc 6 1, 3) := by decide +kernel
theorem dX11_stays_73 : decode cX11_stays 73 = .ok (.goto (-40), 3) := by decide +kernel
theorem dX11_stays_76 : decode cX11_stays 76 = .ok (.lload 4, 2) := by decide +kernel
theorem dX11_stays_78 : decode cX11_stays 78 = .ok (.ldc2_w 388, 3) := by decide +kernel
theorem dX11_stays_81 : decode cX11_stays 81 = .ok (.iload_n 1, 1) := by decide +kernel
theorem dX11_stays_82 : decode cX11_stays 82 = .ok (.invokestatic 384, 3) := by decide +kernel
theorem dX11_stays_85 : decode cX11_stays 85 = .ok (.iload_n 2, 1) := by decide +kernel
theorem dX11_stays_86 : decode cX11_stays 86 = .ok (.invokestatic 390, 3) := by decide +kernel
theorem dX11_stays_89 : decode cX11_stays 89 = .ok (.lreturn, 1) := by decide +kernel
theorem dX11_aloftOf_0 : decode cX11_aloftOf 0 = .ok (.iconst 0, 1) := by decide +kernel
theorem dX11_aloftOf_1 : decode cX11_aloftOf 1 = .ok (.istore_n 2, 1) := by decide +kernel
theorem dX11_aloftOf_2 : decode cX11_aloftOf 2 = .ok (.iconst 0, 1) := by decide +kernel
theorem dX11_aloftOf_3 : decode cX11_aloftOf 3 = .ok (.istore_n 3, 1) := by decide +kernel
theorem dX11_aloftOf_4 : decode cX11_aloftOf 4 = .ok (.iload_n 2, 1) := by decide +kernel
theorem dX11_aloftOf_5 : decode cX11_aloftOf 5 = .ok (.aload_n 0, 1) := by decide +kernel
theorem dX11_aloftOf_6 : decode cX11_aloftOf 6 = .ok (.iload_n 1, 1) := by decide +kernel
theorem dX11_aloftOf_7 : decode cX11_aloftOf 7 = .ok (.invokevirtual 259, 3) := by decide +kernel
theorem dX11_aloftOf_10 : decode cX11_aloftOf 10 = .ok (.if_icmp .ge 57, 3) := by decide +kernel
theorem dX11_aloftOf_13 : decode cX11_aloftOf 13 = .ok (.iload_n 3, 1) := by decide +kernel
theorem dX11_aloftOf_14 : decode cX11_aloftOf 14 = .ok (.bipush 90, 2) := by decide +kernel
theorem dX11_aloftOf_16 : decode cX11_aloftOf 16 = .ok (.if_icmp .ge 51, 3) := by decide +kernel
theorem dX11_aloftOf_19 : decode cX11_aloftOf 19 = .ok (.aload_n 0, 1) := by decide +kernel
theorem dX11_aloftOf_20 : decode cX11_aloftOf 20 = .ok (.bipush 75, 2) := by decide +kernel
theorem dX11_aloftOf_22 : decode cX11_aloftOf 22 = .ok (.aload_n 0, 1) := by decide +kernel
theorem dX11_aloftOf_23 : decode cX11_aloftOf 23 = .ok (.getfield 394, 3) := by decide +kernel
theorem dX11_aloftOf_26 : decode cX11_aloftOf 26 = .ok (.imul, 1) := by decide +kernel
theorem dX11_aloftOf_27 : decode cX11_aloftOf 27 = .ok (.bipush 74, 2) := by decide +kernel
theorem dX11_aloftOf_29 : decode cX11_aloftOf 29 = .ok (.iadd, 1) := by decide +kernel
theorem dX11_aloftOf_30 : decode cX11_aloftOf 30 = .ok (.ldc_w 397, 3) := by decide +kernel
theorem dX11_aloftOf_33 : decode cX11_aloftOf 33 = .ok (.irem, 1) := by decide +kernel
theorem dX11_aloftOf_34 : decode cX11_aloftOf 34 = .ok (.putfield 394, 3) := by decide +kernel
theorem dX11_aloftOf_37 : decode cX11_aloftOf 37 = .ok (.iinc 3 1, 3) := by decide +kernel
theorem dX11_aloftOf_40 : decode cX11_aloftOf 40 = .ok (.iload_n 2, 1) := by decide +kernel
theorem dX11_aloftOf_41 : decode cX11_aloftOf 41 = .ok (.aload_n 0, 1) := by decide +kernel
theorem dX11_aloftOf_42 : decode cX11_aloftOf 42 = .ok (.getfield 394, 3) := by decide +kernel
theorem dX11_aloftOf_45 : decode cX11_aloftOf 45 = .ok (.bipush 100, 2) := by decide +kernel
theorem dX11_aloftOf_47 : decode cX11_aloftOf 47 = .ok (.irem, 1) := by decide +kernel
theorem dX11_aloftOf_48 : decode cX11_aloftOf 48 = .ok (.aload_n 0, 1) := by decide +kernel
theorem dX11_aloftOf_49 : decode cX11_aloftOf 49 = .ok (.getfield 20, 3) := by decide +kernel
theorem dX11_aloftOf_52 : decode cX11_aloftOf 52 = .ok (.iconst 2, 1) := by decide +kernel
theorem dX11_aloftOf_53 : decode cX11_aloftOf 53 = .ok (.iaload, 1) := by decide +kernel
theorem dX11_aloftOf_54 : decode cX11_aloftOf 54 = .ok (.if_icmp .ge 7, 3) := by decide +kernel
theorem dX11_aloftOf_57 : decode cX11_aloftOf 57 = .ok (.iconst 0, 1) := by decide +kernel
theorem dX11_aloftOf_58 : decode cX11_aloftOf 58 = .ok (.goto 4, 3) := by decide +kernel
theorem dX11_aloftOf_61 : decode cX11_aloftOf 61 = .ok (.iconst 1, 1) := by decide +kernel
theorem dX11_aloftOf_62 : decode cX11_aloftOf 62 = .ok (.iadd, 1) := by decide +kernel
theorem dX11_aloftOf_63 : decode cX11_aloftOf 63 = .ok (.istore_n 2, 1) := by decide +kernel
theorem dX11_aloftOf_64 : decode cX11_aloftOf 64 = .ok (.goto (-60), 3) := by decide +kernel
theorem dX11_aloftOf_67 : decode cX11_aloftOf 67 = .ok (.iload_n 2, 1) := by decide +kernel
theorem dX11_aloftOf_68 : decode cX11_aloftOf 68 = .ok (.aload_n 0, 1) := by decide +kernel
theorem dX11_aloftOf_69 : decode cX11_aloftOf 69 = .ok (.iload_n 1, 1) := by decide +kernel
theorem dX11_aloftOf_70 : decode cX11_aloftOf 70 = .ok (.invokevirtual 259, 3) := by decide +kernel
theorem dX11_aloftOf_73 : decode cX11_aloftOf 73 = .ok (.if_icmp .ne 7, 3) := by decide +kernel
theorem dX11_aloftOf_76 : decode cX11_aloftOf 76 = .ok (.iload_n 3, 1) := by decide +kernel
theorem dX11_aloftOf_77 : decode cX11_aloftOf 77 = .ok (.goto 5, 3) := by decide +kernel
theorem dX11_aloftOf_80 : decode cX11_aloftOf 80 = .ok (.bipush (-2), 2) := by decide +kernel
theorem dX11_aloftOf_82 : decode cX11_aloftOf 82 = .ok (.ireturn, 1) := by decide +kernel
theorem dX11_aloft_0 : decode cX11_aloft 0 = .ok (.aload_n 0, 1) := by decide +kernel
theorem dX11_aloft_1 : decode cX11_aloft 1 = .ok (.invokevirtual 153, 3) := by decide +kernel
theorem dX11_aloft_4 : decode cX11_aloft 4 = .ok (.aload_n 0, 1) := by decide +kernel
theorem dX11_aloft_5 : decode cX11_aloft 5 = .ok (.aload_n 0, 1) := by decide +kernel
theorem dX11_aloft_6 : decode cX11_aloft 6 = .ok (.iload_n 1, 1) := by decide +kernel
theorem dX11_aloft_7 : decode cX11_aloft 7 = .ok (.invokevirtual 286, 3) := by decide +kernel
theorem dX11_aloft_10 : decode cX11_aloft 10 = .ok (.iload_n 2, 1) := by decide +kernel
theorem dX11_aloft_11 : decode cX11_aloft 11 = .ok (.ldc_w 398, 3) := by decide +kernel
theorem dX11_aloft_14 : decode cX11_aloft 14 = .ok (.invokevirtual 298, 3) := by decide +kernel
theorem dX11_aloft_17 : decode cX11_aloft 17 = .ok (.istore_n 3, 1) := by decide +kernel
theorem dX11_aloft_18 : decode cX11_aloft 18 = .ok (.iload_n 3, 1) := by decide +kernel
theorem dX11_aloft_19 : decode cX11_aloft 19 = .ok (.ifCond .eq 9, 3) := by decide +kernel
theorem dX11_aloft_22 : decode cX11_aloft 22 = .ok (.aload_n 0, 1) := by decide +kernel
theorem dX11_aloft_23 : decode cX11_aloft 23 = .ok (.iload_n 3, 1) := by decide +kernel
theorem dX11_aloft_24 : decode cX11_aloft 24 = .ok (.invokevirtual 156, 3) := by decide +kernel
theorem dX11_aloft_27 : decode cX11_aloft 27 = .ok (.ireturn, 1) := by decide +kernel
theorem dX11_aloft_28 : decode cX11_aloft 28 = .ok (.aload_n 0, 1) := by decide +kernel
theorem dX11_aloft_29 : decode cX11_aloft 29 = .ok (.iload_n 2, 1) := by decide +kernel
theorem dX11_aloft_30 : decode cX11_aloft 30 = .ok (.putfield 394, 3) := by decide +kernel
theorem dX11_aloft_33 : decode cX11_aloft 33 = .ok (.aload_n 0, 1) := by decide +kernel
theorem dX11_aloft_34 : decode cX11_aloft 34 = .ok (.iload_n 1, 1) := by decide +kernel
theorem dX11_aloft_35 : decode cX11_aloft 35 = .ok (.invokevirtual 399, 3) := by decide +kernel
theorem dX11_aloft_38 : decode cX11_aloft 38 = .ok (.ireturn, 1) := by decide +kernel
theorem dX11_last_0 : decode cX11_last 0 = .ok (.aload_n 0, 1) := by decide +kernel
theorem dX11_last_1 : decode cX11_last 1 = .ok (.invokevirtual 153, 3) := by decide +kernel
theorem dX11_last_4 : decode cX11_last 4 = .ok (.aload_n 0, 1) := by decide +kernel
theorem dX11_last_5 : decode cX11_last 5 = .ok (.aload_n 0, 1) := by decide +kernel
theorem dX11_last_6 : decode cX11_last 6 = .ok (.getfield 166, 3) := by decide +kernel
theorem dX11_last_9 : decode cX11_last 9 = .ok (.iload_n 1, 1) := by decide +kernel
theorem dX11_last_10 : decode cX11_last 10 = .ok (.ldc_w 398, 3) := by decide +kernel
theorem dX11_last_13 : decode cX11_last 13 = .ok (.invokevirtual 298, 3) := by decide +kernel
theorem dX11_last_16 : decode cX11_last 16 = .ok (.istore_n 2, 1) := by decide +kernel
theorem dX11_last_17 : decode cX11_last 17 = .ok (.iload_n 2, 1) := by decide +kernel
theorem dX11_last_18 : decode cX11_last 18 = .ok (.ifCond .eq 9, 3) := by decide +kernel
theorem dX11_last_21 : decode cX11_last 21 = .ok (.aload_n 0, 1) := by decide +kernel
theorem dX11_last_22 : decode cX11_last 22 = .ok (.iload_n 2, 1) := by decide +kernel
theorem dX11_last_23 : decode cX11_last 23 = .ok (.invokevirtual 156, 3) := by decide +kernel
theorem dX11_last_26 : decode cX11_last 26 = .ok (.ireturn, 1) := by decide +kernel
theorem dX11_last_27 : decode cX11_last 27 = .ok (.aload_n 0, 1) := by decide +kernel
theorem dX11_last_28 : decode cX11_last 28 = .ok (.iload_n 1, 1) := by decide +kernel
theorem dX11_last_29 : decode cX11_last 29 = .ok (.putfield 394, 3) := by decide +kernel
theorem dX11_last_32 : decode cX11_last 32 = .ok (.bipush (-2), 2) := by decide +kernel
theorem dX11_last_34 : decode cX11_last 34 = .ok (.istore_n 3, 1) := by decide +kernel
theorem dX11_last_35 : decode cX11_last 35 = .ok (.iconst (-1), 1) := by decide +kernel
theorem dX11_last_36 : decode cX11_last 36 = .ok (.istore 4, 2) := by decide +kernel
theorem dX11_last_38 : decode cX11_last 38 = .ok (.iconst 0, 1) := by decide +kernel
theorem dX11_last_39 : decode cX11_last 39 = .ok (.istore 5, 2) := by decide +kernel
theorem dX11_last_41 : decode cX11_last 41 = .ok (.iload 5, 2) := by decide +kernel
theorem dX11_last_43 : decode cX11_last 43 = .ok (.aload_n 0, 1) := by decide +kernel
theorem dX11_last_44 : decode cX11_last 44 = .ok (.getfield 20, 3) := by decide +kernel
theorem dX11_last_47 : decode cX11_last 47 = .ok (.iconst 4, 1) := by decide +kernel
theorem dX11_last_48 : decode cX11_last 48 = .ok (.iaload, 1) := by decide +kernel
theorem dX11_last_49 : decode cX11_last 49 = .ok (.if_icmp .ge 83, 3) := by decide +kernel
theorem dX11_last_52 : decode cX11_last 52 = .ok (.aload_n 0, 1) := by decide +kernel
theorem dX11_last_53 : decode cX11_last 53 = .ok (.iload 5, 2) := by decide +kernel
theorem dX11_last_55 : decode cX11_last 55 = .ok (.invokevirtual 262, 3) := by decide +kernel
theorem dX11_last_58 : decode cX11_last 58 = .ok (.ifCond .eq 8, 3) := by decide +kernel
theorem dX11_last_61 : decode cX11_last 61 = .ok (.bipush (-2), 2) := by decide +kernel
theorem dX11_last_63 : decode cX11_last 63 = .ok (.goto 9, 3) := by decide +kernel
theorem dX11_last_66 : decode cX11_last 66 = .ok (.aload_n 0, 1) := by decide +kernel
theorem dX11_last_67 : decode cX11_last 67 = .ok (.iload 5, 2) := by decide +kernel
theorem dX11_last_69 : decode cX11_last 69 = .ok (.invokevirtual 399, 3) := by decide +kernel
theorem dX11_last_72 : decode cX11_last 72 = .ok (.istore 6, 2) := by decide +kernel
theorem dX11_last_74 : decode cX11_last 74 = .ok (.iload 6, 2) := by decide +kernel
theorem dX11_last_76 : decode cX11_last 76 = .ok (.ifCond .lt 50, 3) := by decide +kernel
theorem dX11_last_79 : decode cX11_last 79 = .ok (.aload_n 0, 1) := by decide +kernel
theorem dX11_last_80 : decode cX11_last 80 = .ok (.getfield 20, 3) := by decide +kernel
theorem dX11_last_83 : decode cX11_last 83 = .ok (.bipush 19, 2) := by decide +kernel
theorem dX11_last_85 : decode cX11_last 85 = .ok (.iconst 5, 1) := by decide +kernel
theorem dX11_last_86 : decode cX11_last 86 = .ok (.iload 5, 2) := by decide +kernel
theorem dX11_last_88 : decode cX11_last 88 = .ok (.imul, 1) := by decide +kernel
theorem dX11_last_89 : decode cX11_last 89 = .ok (.iadd, 1) := by decide +kernel
theorem dX11_last_90 : decode cX11_last 90 = .ok (.iconst 3, 1) := by decide +kernel
theorem dX11_last_91 : decode cX11_last 91 = .ok (.iadd, 1) := by decide +kernel
theorem dX11_last_92 : decode cX11_last 92 = .ok (.iaload, 1) := by decide +kernel
theorem dX11_last_93 : decode cX11_last 93 = .ok (.iload 6, 2) := by decide +kernel
theorem dX11_last_95 : decode cX11_last 95 = .ok (.iadd, 1) := by decide +kernel
theorem dX11_last_96 : decode cX11_last 96 = .ok (.iload 4, 2) := by decide +kernel
theorem dX11_last_98 : decode cX11_last 98 = .ok (.if_icmp .gt 6, 3) := by decide +kernel
theorem dX11_last_101 : decode cX11_last 101 = .ok (.goto 25, 3) := by decide +kernel
theorem dX11_last_104 : decode cX11_last 104 = .ok (.iload 5, 2) := by decide +kernel
theorem dX11_last_106 : decode cX11_last 106 = .ok (.istore_n 3, 1) := by decide +kernel
theorem dX11_last_107 : decode cX11_last 107 = .ok (.aload_n 0, 1) := by decide +kernel
theorem dX11_last_108 : decode cX11_last 108 = .ok (.getfield 20, 3) := by decide +kernel
theorem dX11_last_111 : decode cX11_last 111 = .ok (.bipush 19, 2) := by decide +kernel
theorem dX11_last_113 : decode cX11_last 113 = .ok (.iconst 5, 1) := by decide +kernel
theorem dX11_last_114 : decode cX11_last 114 = .ok (.iload 5, 2) := by decide +kernel
theorem dX11_last_116 : decode cX11_last 116 = .ok (.imul, 1) := by decide +kernel
theorem dX11_last_117 : decode cX11_last 117 = .ok (.iadd, 1) := by decide +kernel
theorem dX11_last_118 : decode cX11_last 118 = .ok (.iconst 3, 1) := by decide +kernel
theorem dX11_last_119 : decode cX11_last 119 = .ok (.iadd, 1) := by decide +kernel
theorem dX11_last_120 : decode cX11_last 120 = .ok (.iaload, 1) := by decide +kernel
theorem dX11_last_121 : decode cX11_last 121 = .ok (.iload 6, 2) := by decide +kernel
theorem dX11_last_123 : decode cX11_last 123 = .ok (.iadd, 1) := by decide +kernel
theorem dX11_last_124 : decode cX11_last 124 = .ok (.istore 4, 2) := by decide +kernel
theorem dX11_last_126 : decode cX11_last 126 = .ok (.iinc 5 1, 3) := by decide +kernel
theorem dX11_last_129 : decode cX11_last 129 = .ok (.goto (-88), 3) := by decide +kernel
theorem dX11_last_132 : decode cX11_last 132 = .ok (.iload_n 3, 1) := by decide +kernel
theorem dX11_last_133 : decode cX11_last 133 = .ok (.ireturn, 1) := by decide +kernel
theorem dX11_note_0 : decode cX11_note 0 = .ok (.aload_n 0, 1) := by decide +kernel
theorem dX11_note_1 : decode cX11_note 1 = .ok (.getfield 169, 3) := by decide +kernel
theorem dX11_note_4 : decode cX11_note 4 = .ok (.bipush 16, 2) := by decide +kernel
theorem dX11_note_6 : decode cX11_note 6 = .ok (.if_icmp .ne 43, 3) := by decide +kernel
theorem dX11_note_9 : decode cX11_note 9 = .ok (.iconst 0, 1) := by decide +kernel
theorem dX11_note_10 : decode cX11_note 10 = .ok (.istore_n 1, 1) := by decide +kernel
theorem dX11_note_11 : decode cX11_note 11 = .ok (.iload_n 1, 1) := by decide +kernel
theorem dX11_note_12 : decode cX11_note 12 = .ok (.sipush 330, 3) := by decide +kernel
theorem dX11_note_15 : decode cX11_note 15 = .ok (.if_icmp .ge 24, 3) := by decide +kernel
theorem dX11_note_18 : decode cX11_note 18 = .ok (.aload_n 0, 1) := by decide +kernel
theorem dX11_note_19 : decode cX11_note 19 = .ok (.getfield 29, 3) := by decide +kernel
theorem dX11_note_22 : decode cX11_note 22 = .ok (.iload_n 1, 1) := by decide +kernel
theorem dX11_note_23 : decode cX11_note 23 = .ok (.aload_n 0, 1) := by decide +kernel
theorem dX11_note_24 : decode cX11_note 24 = .ok (.getfield 29, 3) := by decide +kernel
theorem dX11_note_27 : decode cX11_note 27 = .ok (.iload_n 1, 1) := by decide +kernel
theorem dX11_note_28 : decode cX11_note 28 = .ok (.bipush 22, 2) := by decide +kernel
theorem dX11_note_30 : decode cX11_note 30 = .ok (.iadd, 1) := by decide +kernel
theorem dX11_note_31 : decode cX11_note 31 = .ok (.iaload, 1) := by decide +kernel
theorem dX11_note_32 : decode cX11_note 32 = .ok (.iastore, 1) := by decide +kernel
theorem dX11_note_33 : decode cX11_note 33 = .ok (.iinc 1 1, 3) := by decide +kernel
theorem dX11_note_36 : decode cX11_note 36 = .ok (.goto (-25), 3) := by decide +kernel
theorem dX11_note_39 : decode cX11_note 39 = .ok (.aload_n 0, 1) := by decide +kernel
theorem dX11_note_40 : decode cX11_note 40 = .ok (.dup, 1) := by decide +kernel
theorem dX11_note_41 : decode cX11_note 41 = .ok (.getfield 169, 3) := by decide +kernel
theorem dX11_note_44 : decode cX11_note 44 = .ok (.iconst 1, 1) := by decide +kernel
theorem dX11_note_45 : decode cX11_note 45 = .ok (.isub, 1) := by decide +kernel
theorem dX11_note_46 : decode cX11_note 46 = .ok (.putfield 169, 3) := by decide +kernel
theorem dX11_note_49 : decode cX11_note 49 = .ok (.aload_n 0, 1) := by decide +kernel
theorem dX11_note_50 : decode cX11_note 50 = .ok (.getfield 26, 3) := by decide +kernel
theorem dX11_note_53 : decode cX11_note 53 = .ok (.iconst 0, 1) := by decide +kernel
theorem dX11_note_54 : decode cX11_note 54 = .ok (.aload_n 0, 1) := by decide +kernel
theorem dX11_note_55 : decode cX11_note 55 = .ok (.getfield 29, 3) := by decide +kernel
theorem dX11_note_58 : decode cX11_note 58 = .ok (.bipush 22, 2) := by decide +kernel
theorem dX11_note_60 : decode cX11_note 60 = .ok (.aload_n 0, 1) := by decide +kernel
theorem dX11_note_61 : decode cX11_note 61 = .ok (.getfield 169, 3) := by decide +kernel
theorem dX11_note_64 : decode cX11_note 64 = .ok (.imul, 1) := by decide +kernel
theorem dX11_note_65 : decode cX11_note 65 = .ok (.bipush 22, 2) := by decide +kernel
theorem dX11_note_67 : decode cX11_note 67 = .ok (.invokestatic 162, 3) := by decide +kernel
theorem dX11_note_70 : decode cX11_note 70 = .ok (.aload_n 0, 1) := by decide +kernel
theorem dX11_note_71 : decode cX11_note 71 = .ok (.dup, 1) := by decide +kernel
theorem dX11_note_72 : decode cX11_note 72 = .ok (.getfield 169, 3) := by decide +kernel
theorem dX11_note_75 : decode cX11_note 75 = .ok (.iconst 1, 1) := by decide +kernel
theorem dX11_note_76 : decode cX11_note 76 = .ok (.iadd, 1) := by decide +kernel
theorem dX11_note_77 : decode cX11_note 77 = .ok (.putfield 169, 3) := by decide +kernel
theorem dX11_note_80 : decode cX11_note 80 = .ok (.return_, 1) := by decide +kernel
theorem dX11_day_0 : decode cX11_day 0 = .ok (.aload_n 0, 1) := by decide +kernel
theorem dX11_day_1 : decode cX11_day 1 = .ok (.invokevirtual 153, 3) := by decide +kernel
theorem dX11_day_4 : decode cX11_day 4 = .ok (.aload_n 0, 1) := by decide +kernel
theorem dX11_day_5 : decode cX11_day 5 = .ok (.getfield 166, 3) := by decide +kernel
theorem dX11_day_8 : decode cX11_day 8 = .ok (.ifCond .ne 9, 3) := by decide +kernel
theorem dX11_day_11 : decode cX11_day 11 = .ok (.aload_n 0, 1) := by decide +kernel
theorem dX11_day_12 : decode cX11_day 12 = .ok (.iconst 1, 1) := by decide +kernel
theorem dX11_day_13 : decode cX11_day 13 = .ok (.invokevirtual 156, 3) := by decide +kernel
theorem dX11_day_16 : decode cX11_day 16 = .ok (.ireturn, 1) := by decide +kernel
theorem dX11_day_17 : decode cX11_day 17 = .ok (.aload_n 0, 1) := by decide +kernel
theorem dX11_day_18 : decode cX11_day 18 = .ok (.getfield 26, 3) := by decide +kernel
theorem dX11_day_21 : decode cX11_day 21 = .ok (.bipush 20, 2) := by decide +kernel
theorem dX11_day_23 : decode cX11_day 23 = .ok (.iaload, 1) := by decide +kernel
theorem dX11_day_24 : decode cX11_day 24 = .ok (.sipush 999, 3) := by decide +kernel
theorem dX11_day_27 : decode cX11_day 27 = .ok (.if_icmp .ne 9, 3) := by decide +kernel
theorem dX11_day_30 : decode cX11_day 30 = .ok (.aload_n 0, 1) := by decide +kernel
theorem dX11_day_31 : decode cX11_day 31 = .ok (.iconst 3, 1) := by decide +kernel
theorem dX11_day_32 : decode cX11_day 32 = .ok (.invokevirtual 156, 3) := by decide +kernel
theorem dX11_day_35 : decode cX11_day 35 = .ok (.ireturn, 1) := by decide +kernel
theorem dX11_day_36 : decode cX11_day 36 = .ok (.aload_n 0, 1) := by decide +kernel
theorem dX11_day_37 : decode cX11_day 37 = .ok (.invokevirtual 402, 3) := by decide +kernel
theorem dX11_day_40 : decode cX11_day 40 = .ok (.aload_n 0, 1) := by decide +kernel
theorem dX11_day_41 : decode cX11_day 41 = .ok (.getfield 26, 3) := by decide +kernel
theorem dX11_day_44 : decode cX11_day 44 = .ok (.bipush 20, 2) := by decide +kernel
theorem dX11_day_46 : decode cX11_day 46 = .ok (.dup2, 1) := by decide +kernel
theorem dX11_day_47 : decode cX11_day 47 = .ok (.iaload, 1) := by decide +kernel
theorem dX11_day_48 : decode cX11_day 48 = .ok (.iconst 1, 1) := by decide +kernel
theorem dX11_day_49 : decode cX11_day 49 = .ok (.iadd, 1) := by decide +kernel
theorem dX11_day_50 : decode cX11_day 50 = .ok (.iastore, 1) := by decide +kernel
theorem dX11_day_51 : decode cX11_day 51 = .ok (.iconst 0, 1) := by decide +kernel
theorem dX11_day_52 : decode cX11_day 52 = .ok (.istore_n 1, 1) := by decide +kernel
theorem dX11_day_53 : decode cX11_day 53 = .ok (.iconst 0, 1) := by decide +kernel
theorem dX11_day_54 : decode cX11_day 54 = .ok (.istore_n 2, 1) := by decide +kernel
theorem dX11_day_55 : decode cX11_day 55 = .ok (.iload_n 2, 1) := by decide +kernel
theorem dX11_day_56 : decode cX11_day 56 = .ok (.aload_n 0, 1) := by decide +kernel
theorem dX11_day_57 : decode cX11_day 57 = .ok (.getfield 20, 3) := by decide +kernel
theorem dX11_day_60 : decode cX11_day 60 = .ok (.iconst 3, 1) := by decide +kernel
theorem dX11_day_61 : decode cX11_day 61 = .ok (.iaload, 1) := by decide +kernel
theorem dX11_day_62 : decode cX11_day 62 = .ok (.if_icmp .ge 42, 3) := by decide +kernel
theorem dX11_day_65 : decode cX11_day 65 = .ok (.aload_n 0, 1) := by decide +kernel
theorem dX11_day_66 : decode cX11_day 66 = .ok (.iload_n 2, 1) := by decide +kernel
theorem dX11_day_67 : decode cX11_day 67 = .ok (.aload_n 0, 1) := by decide +kernel
theorem dX11_day_68 : decode cX11_day 68 = .ok (.getfield 26, 3) := by decide +kernel
theorem dX11_day_71 : decode cX11_day 71 = .ok (.bipush 20, 2) := by decide +kernel
theorem dX11_day_73 : decode cX11_day 73 = .ok (.iaload, 1) := by decide +kernel
theorem dX11_day_74 : decode cX11_day 74 = .ok (.invokevirtual 280, 3) := by decide +kernel
theorem dX11_day_77 : decode cX11_day 77 = .ok (.invokestatic 295, 3) := by decide +kernel
theorem dX11_day_80 : decode cX11_day 80 = .ok (.istore_n 3, 1) := by decide +kernel
theorem dX11_day_81 : decode cX11_day 81 = .ok (.aload_n 0, 1) := by decide +kernel
theorem dX11_day_82 : decode cX11_day 82 = .ok (.getfield 26, 3) := by decide +kernel
theorem dX11_day_85 : decode cX11_day 85 = .ok (.bipush 7, 2) := by decide +kernel
theorem dX11_day_87 : decode cX11_day 87 = .ok (.iload_n 2, 1) := by decide +kernel
theorem dX11_day_88 : decode cX11_day 88 = .ok (.iadd, 1) := by decide +kernel
theorem dX11_day_89 : decode cX11_day 89 = .ok (.dup2, 1) := by decide +kernel
theorem dX11_day_90 : decode cX11_day 90 = .ok (.iaload, 1) := by decide +kernel
theorem dX11_day_91 : decode cX11_day 91 = .ok (.iload_n 3, 1) := by decide +kernel
theorem dX11_day_92 : decode cX11_day 92 = .ok (.iadd, 1) := by decide +kernel
theorem dX11_day_93 : decode cX11_day 93 = .ok (.iastore, 1) := by decide +kernel
theorem dX11_day_94 : decode cX11_day 94 = .ok (.iload_n 1, 1) := by decide +kernel
theorem dX11_day_95 : decode cX11_day 95 = .ok (.iload_n 3, 1) := by decide +kernel
theorem dX11_day_96 : decode cX11_day 96 = .ok (.iadd, 1) := by decide +kernel
theorem dX11_day_97 : decode cX11_day 97 = .ok (.istore_n 1, 1) := by decide +kernel
theorem dX11_day_98 : decode cX11_day 98 = .ok (.iinc 2 1, 3) := by decide +kernel
theorem dX11_day_101 : decode cX11_day 101 = .ok (.goto (-46), 3) := by decide +kernel
theorem dX11_day_104 : decode cX11_day 104 = .ok (.iload_n 1, 1) := by decide +kernel
theorem dX11_day_105 : decode cX11_day 105 = .ok (.ireturn, 1) := by decide +kernel
theorem dX11_pay_0 : decode cX11_pay 0 = .ok (.aload_n 0, 1) := by decide +kernel
theorem dX11_pay_1 : decode cX11_pay 1 = .ok (.invokevirtual 153, 3) := by decide +kernel
theorem dX11_pay_4 : decode cX11_pay 4 = .ok (.aload_n 0, 1) := by decide +kernel
theorem dX11_pay_5 : decode cX11_pay 5 = .ok (.iload_n 1, 1) := by decide +kernel
theorem dX11_pay_6 : decode cX11_pay 6 = .ok (.invokevirtual 286, 3) := by decide +kernel
theorem dX11_pay_9 : decode cX11_pay 9 = .ok (.ifCond .ne 9, 3) := by decide +kernel
theorem dX11_pay_12 : decode cX11_pay 12 = .ok (.aload_n 0, 1) := by decide +kernel
theorem dX11_pay_13 : decode cX11_pay 13 = .ok (.iconst 1, 1) := by decide +kernel
theorem dX11_pay_14 : decode cX11_pay 14 = .ok (.invokevirtual 156, 3) := by decide +kernel
theorem dX11_pay_17 : decode cX11_pay 17 = .ok (.ireturn, 1) := by decide +kernel
theorem dX11_pay_18 : decode cX11_pay 18 = .ok (.iload_n 2, 1) := by decide +kernel
theorem dX11_pay_19 : decode cX11_pay 19 = .ok (.iconst 1, 1) := by decide +kernel
theorem dX11_pay_20 : decode cX11_pay 20 = .ok (.sipush 999, 3) := by decide +kernel
theorem dX11_pay_23 : decode cX11_pay 23 = .ok (.invokestatic 138, 3) := by decide +kernel
theorem dX11_pay_26 : decode cX11_pay 26 = .ok (.ifCond .ne 9, 3) := by decide +kernel
theorem dX11_pay_29 : decode cX11_pay 29 = .ok (.aload_n 0, 1) := by decide +kernel
theorem dX11_pay_30 : decode cX11_pay 30 = .ok (.iconst 2, 1) := by decide +kernel
theorem dX11_pay_31 : decode cX11_pay 31 = .ok (.invokevirtual 156, 3) := by decide +kernel
theorem dX11_pay_34 : decode cX11_pay 34 = .ok (.ireturn, 1) := by decide +kernel
theorem dX11_pay_35 : decode cX11_pay 35 = .ok (.aload_n 0, 1) := by decide +kernel
theorem dX11_pay_36 : decode cX11_pay 36 = .ok (.iload_n 1, 1) := by decide +kernel
theorem dX11_pay_37 : decode cX11_pay 37 = .ok (.aload_n 0, 1) := by decide +kernel
theorem dX11_pay_38 : decode cX11_pay 38 = .ok (.getfield 26, 3) := by decide +kernel
theorem dX11_pay_41 : decode cX11_pay 41 = .ok (.bipush 20, 2) := by decide +kernel
theorem dX11_pay_43 : decode cX11_pay 43 = .ok (.iaload, 1) := by decide +kernel
theorem dX11_pay_44 : decode cX11_pay 44 = .ok (.invokevirtual 268, 3) := by decide +kernel
theorem dX11_pay_47 : decode cX11_pay 47 = .ok (.iconst 2, 1) := by decide +kernel
theorem dX11_pay_48 : decode cX11_pay 48 = .ok (.if_icmp .ne 12, 3) := by decide +kernel
theorem dX11_pay_51 : decode cX11_pay 51 = .ok (.aload_n 0, 1) := by decide +kernel
theorem dX11_pay_52 : decode cX11_pay 52 = .ok (.iload_n 1, 1) := by decide +kernel
theorem dX11_pay_53 : decode cX11_pay 53 = .ok (.invokevirtual 274, 3) := by decide +kernel
theorem dX11_pay_56 : decode cX11_pay 56 = .ok (.iload_n 2, 1) := by decide +kernel
theorem dX11_pay_57 : decode cX11_pay 57 = .ok (.if_icmp .ge 9, 3) := by decide +kernel
theorem dX11_pay_60 : decode cX11_pay 60 = .ok (.aload_n 0, 1) := by decide +kernel
theorem dX11_pay_61 : decode cX11_pay 61 = .ok (.iconst 5, 1) := by decide +kernel
theorem dX11_pay_62 : decode cX11_pay 62 = .ok (.invokevirtual 156, 3) := by decide +kernel
theorem dX11_pay_65 : decode cX11_pay 65 = .ok (.ireturn, 1) := by decide +kernel
theorem dX11_pay_66 : decode cX11_pay 66 = .ok (.aload_n 0, 1) := by decide +kernel
theorem dX11_pay_67 : decode cX11_pay 67 = .ok (.getfield 26, 3) := by decide +kernel
theorem dX11_pay_70 : decode cX11_pay 70 = .ok (.bipush 13, 2) := by decide +kernel
theorem dX11_pay_72 : decode cX11_pay 72 = .ok (.aload_n 0, 1) := by decide +kernel
theorem dX11_pay_73 : decode cX11_pay 73 = .ok (.iload_n 1, 1) := by decide +kernel
theorem dX11_pay_74 : decode cX11_pay 74 = .ok (.invokevirtual 237, 3) := by decide +kernel
theorem dX11_pay_77 : decode cX11_pay 77 = .ok (.iadd, 1) := by decide +kernel
theorem dX11_pay_78 : decode cX11_pay 78 = .ok (.iaload, 1) := by decide +kernel
theorem dX11_pay_79 : decode cX11_pay 79 = .ok (.iload_n 2, 1) := by decide +kernel
theorem dX11_pay_80 : decode cX11_pay 80 = .ok (.if_icmp .ge 10, 3) := by decide +kernel
theorem dX11_pay_83 : decode cX11_pay 83 = .ok (.aload_n 0, 1) := by decide +kernel
theorem dX11_pay_84 : decode cX11_pay 84 = .ok (.bipush 6, 2) := by decide +kernel
theorem dX11_pay_86 : decode cX11_pay 86 = .ok (.invokevirtual 156, 3) := by decide +kernel
theorem dX11_pay_89 : decode cX11_pay 89 = .ok (.ireturn, 1) := by decide +kernel
theorem dX11_pay_90 : decode cX11_pay 90 = .ok (.aload_n 0, 1) := by decide +kernel
theorem dX11_pay_91 : decode cX11_pay 91 = .ok (.invokevirtual 402, 3) := by decide +kernel
theorem dX11_pay_94 : decode cX11_pay 94 = .ok (.aload_n 0, 1) := by decide +kernel
theorem dX11_pay_95 : decode cX11_pay 95 = .ok (.getfield 26, 3) := by decide +kernel
theorem dX11_pay_98 : decode cX11_pay 98 = .ok (.bipush 13, 2) := by decide +kernel
theorem dX11_pay_100 : decode cX11_pay 100 = .ok (.aload_n 0, 1) := by decide +kernel
theorem dX11_pay_101 : decode cX11_pay 101 = .ok (.iload_n 1, 1) := by decide +kernel
theorem dX11_pay_102 : decode cX11_pay 102 = .ok (.invokevirtual 237, 3) := by decide +kernel
theorem dX11_pay_105 : decode cX11_pay 105 = .ok (.iadd, 1) := by decide +kernel
theorem dX11_pay_106 : decode cX11_pay 106 = .ok (.dup2, 1) := by decide +kernel
theorem dX11_pay_107 : decode cX11_pay 107 = .ok (.iaload, 1) := by decide +kernel
theorem dX11_pay_108 : decode cX11_pay 108 = .ok (.iload_n 2, 1) := by decide +kernel
theorem dX11_pay_109 : decode cX11_pay 109 = .ok (.isub, 1) := by decide +kernel
theorem dX11_pay_110 : decode cX11_pay 110 = .ok (.iastore, 1) := by decide +kernel
theorem dX11_pay_111 : decode cX11_pay 111 = .ok (.aload_n 0, 1) := by decide +kernel
theorem dX11_pay_112 : decode cX11_pay 112 = .ok (.getfield 26, 3) := by decide +kernel
theorem dX11_pay_115 : decode cX11_pay 115 = .ok (.bipush 21, 2) := by decide +kernel
theorem dX11_pay_117 : decode cX11_pay 117 = .ok (.dup2, 1) := by decide +kernel
theorem dX11_pay_118 : decode cX11_pay 118 = .ok (.iaload, 1) := by decide +kernel
theorem dX11_pay_119 : decode cX11_pay 119 = .ok (.iload_n 2, 1) := by decide +kernel
theorem dX11_pay_120 : decode cX11_pay 120 = .ok (.iadd, 1) := by decide +kernel
theorem dX11_pay_121 : decode cX11_pay 121 = .ok (.iastore, 1) := by decide +kernel
theorem dX11_pay_122 : decode cX11_pay 122 = .ok (.aload_n 0, 1) := by decide +kernel
theorem dX11_pay_123 : decode cX11_pay 123 = .ok (.getfield 26, 3) := by decide +kernel
theorem dX11_pay_126 : decode cX11_pay 126 = .ok (.iload_n 1, 1) := by decide +kernel
theorem dX11_pay_127 : decode cX11_pay 127 = .ok (.dup2, 1) := by decide +kernel
theorem dX11_pay_128 : decode cX11_pay 128 = .ok (.iaload, 1) := by decide +kernel
theorem dX11_pay_129 : decode cX11_pay 129 = .ok (.iload_n 2, 1) := by decide +kernel
theorem dX11_pay_130 : decode cX11_pay 130 = .ok (.iadd, 1) := by decide +kernel
theorem dX11_pay_131 : decode cX11_pay 131 = .ok (.iastore, 1) := by decide +kernel
theorem dX11_pay_132 : decode cX11_pay 132 = .ok (.aload_n 0, 1) := by decide +kernel
theorem dX11_pay_133 : decode cX11_pay 133 = .ok (.iload_n 1, 1) := by decide +kernel
theorem dX11_pay_134 : decode cX11_pay 134 = .ok (.invokevirtual 274, 3) := by decide +kernel
theorem dX11_pay_137 : decode cX11_pay 137 = .ok (.ifCond .ne 16, 3) := by decide +kernel
theorem dX11_pay_140 : decode cX11_pay 140 = .ok (.aload_n 0, 1) := by decide +kernel
theorem dX11_pay_141 : decode cX11_pay 141 = .ok (.getfield 26, 3) := by decide +kernel
theorem dX11_pay_144 : decode cX11_pay 144 = .ok (.bipush 19, 2) := by decide +kernel
theorem dX11_pay_146 : decode cX11_pay 146 = .ok (.dup2, 1) := by decide +kernel
theorem dX11_pay_147 : decode cX11_pay 147 = .ok (.iaload, 1) := by decide +kernel
theorem dX11_pay_148 : decode cX11_pay 148 = .ok (.iconst 1, 1) := by decide +kernel
theorem dX11_pay_149 : decode cX11_pay 149 = .ok (.iload_n 1, 1) := by decide +kernel
theorem dX11_pay_150 : decode cX11_pay 150 = .ok (.ishl, 1) := by decide +kernel
theorem dX11_pay_151 : decode cX11_pay 151 = .ok (.ior, 1) := by decide +kernel
theorem dX11_pay_152 : decode cX11_pay 152 = .ok (.iastore, 1) := by decide +kernel
theorem dX11_pay_153 : decode cX11_pay 153 = .ok (.aload_n 0, 1) := by decide +kernel
theorem dX11_pay_154 : decode cX11_pay 154 = .ok (.iload_n 1, 1) := by decide +kernel
theorem dX11_pay_155 : decode cX11_pay 155 = .ok (.invokevirtual 274, 3) := by decide +kernel
theorem dX11_pay_158 : decode cX11_pay 158 = .ok (.ireturn, 1) := by decide +kernel
theorem dX11_meet_0 : decode cX11_meet 0 = .ok (.aload_n 0, 1) := by decide +kernel
theorem dX11_meet_1 : decode cX11_meet 1 = .ok (.invokevirtual 153, 3) := by decide +kernel
theorem dX11_meet_4 : decode cX11_meet 4 = .ok (.aload_n 0, 1) := by decide +kernel
theorem dX11_meet_5 : decode cX11_meet 5 = .ok (.iload_n 1, 1) := by decide +kernel
theorem dX11_meet_6 : decode cX11_meet 6 = .ok (.iload_n 2, 1) := by decide +kernel
theorem dX11_meet_7 : decode cX11_meet 7 = .ok (.invokevirtual 308, 3) := by decide +kernel
theorem dX11_meet_10 : decode cX11_meet 10 = .ok (.ifCond .ne 9, 3) := by decide +kernel
theorem dX11_meet_13 : decode cX11_meet 13 = .ok (.aload_n 0, 1) := by decide +kernel
theorem dX11_meet_14 : decode cX11_meet 14 = .ok (.iconst 1, 1) := by decide +kernel
theorem dX11_meet_15 : decode cX11_meet 15 = .ok (.invokevirtual 156, 3) := by decide +kernel
theorem dX11_meet_18 : decode cX11_meet 18 = .ok (.ireturn, 1) := by decide +kernel
theorem dX11_meet_19 : decode cX11_meet 19 = .ok (.aload_n 0, 1) := by decide +kernel
theorem dX11_meet_20 : decode cX11_meet 20 = .ok (.iload_n 1, 1) := by decide +kernel
theorem dX11_meet_21 : decode cX11_meet 21 = .ok (.iload_n 2, 1) := by decide +kernel
theorem dX11_meet_22 : decode cX11_meet 22 = .ok (.invokevirtual 305, 3) := by decide +kernel
theorem dX11_meet_25 : decode cX11_meet 25 = .ok (.ifCond .ne 9, 3) := by decide +kernel
theorem dX11_meet_28 : decode cX11_meet 28 = .ok (.aload_n 0, 1) := by decide +kernel
theorem dX11_meet_29 : decode cX11_meet 29 = .ok (.iconst 5, 1) := by decide +kernel
theorem dX11_meet_30 : decode cX11_meet 30 = .ok (.invokevirtual 156, 3) := by decide +kernel
theorem dX11_meet_33 : decode cX11_meet 33 = .ok (.ireturn, 1) := by decide +kernel
theorem dX11_meet_34 : decode cX11_meet 34 = .ok (.aload_n 0, 1) := by decide +kernel
theorem dX11_meet_35 : decode cX11_meet 35 = .ok (.iload_n 1, 1) := by decide +kernel
theorem dX11_meet_36 : decode cX11_meet 36 = .ok (.iload_n 2, 1) := by decide +kernel
theorem dX11_meet_37 : decode cX11_meet 37 = .ok (.invokevirtual 311, 3) := by decide +kernel
theorem dX11_meet_40 : decode cX11_meet 40 = .ok (.istore_n 3, 1) := by decide +kernel
theorem dX11_meet_41 : decode cX11_meet 41 = .ok (.aload_n 0, 1) := by decide +kernel
theorem dX11_meet_42 : decode cX11_meet 42 = .ok (.iload_n 1, 1) := by decide +kernel
theorem dX11_meet_43 : decode cX11_meet 43 = .ok (.invokevirtual 274, 3) := by decide +kernel
theorem dX11_meet_46 : decode cX11_meet 46 = .ok (.aload_n 0, 1) := by decide +kernel
theorem dX11_meet_47 : decode cX11_meet 47 = .ok (.iload_n 2, 1) := by decide +kernel
theorem dX11_meet_48 : decode cX11_meet 48 = .ok (.invokevirtual 274, 3) := by decide +kernel
theorem dX11_meet_51 : decode cX11_meet 51 = .ok (.if_icmp .le 11, 3) := by decide +kernel
theorem dX11_meet_54 : decode cX11_meet 54 = .ok (.aload_n 0, 1) := by decide +kernel
theorem dX11_meet_55 : decode cX11_meet 55 = .ok (.iload_n 1, 1) := by decide +kernel
theorem dX11_meet_56 : decode cX11_meet 56 = .ok (.invokevirtual 237, 3) := by decide +kernel
theorem dX11_meet_59 : decode cX11_meet 59 = .ok (.goto 8, 3) := by decide +kernel
theorem dX11_meet_62 : decode cX11_meet 62 = .ok (.aload_n 0, 1) := by decide +kernel
theorem dX11_meet_63 : decode cX11_meet 63 = .ok (.iload_n 2, 1) := by decide +kernel
theorem dX11_meet_64 : decode cX11_meet 64 = .ok (.invokevirtual 237, 3) := by decide +kernel
theorem dX11_meet_67 : decode cX11_meet 67 = .ok (.istore 4, 2) := by decide +kernel
theorem dX11_meet_69 : decode cX11_meet 69 = .ok (.aload_n 0, 1) := by decide +kernel
theorem dX11_meet_70 : decode cX11_meet 70 = .ok (.getfield 26, 3) := by decide +kernel
theorem dX11_meet_73 : decode cX11_meet 73 = .ok (.bipush 13, 2) := by decide +kernel
theorem dX11_meet_75 : decode cX11_meet 75 = .ok (.iload 4, 2) := by decide +kernel
theorem dX11_meet_77 : decode cX11_meet 77 = .ok (.iadd, 1) := by decide +kernel
theorem dX11_meet_78 : decode cX11_meet 78 = .ok (.iaload, 1) := by decide +kernel
theorem dX11_meet_79 : decode cX11_meet 79 = .ok (.iload_n 3, 1) := by decide +kernel
theorem dX11_meet_80 : decode cX11_meet 80 = .ok (.if_icmp .ge 10, 3) := by decide +kernel
theorem dX11_meet_83 : decode cX11_meet 83 = .ok (.aload_n 0, 1) := by decide +kernel
theorem dX11_meet_84 : decode cX11_meet 84 = .ok (.bipush 6, 2) := by decide +kernel
theorem dX11_meet_86 : decode cX11_meet 86 = .ok (.invokevirtual 156, 3) := by decide +kernel
theorem dX11_meet_89 : decode cX11_meet 89 = .ok (.ireturn, 1) := by decide +kernel
theorem dX11_meet_90 : decode cX11_meet 90 = .ok (.aload_n 0, 1) := by decide +kernel
theorem dX11_meet_91 : decode cX11_meet 91 = .ok (.invokevirtual 402, 3) := by decide +kernel
theorem dX11_meet_94 : decode cX11_meet 94 = .ok (.aload_n 0, 1) := by decide +kernel
theorem dX11_meet_95 : decode cX11_meet 95 = .ok (.getfield 26, 3) := by decide +kernel
theorem dX11_meet_98 : decode cX11_meet 98 = .ok (.bipush 13, 2) := by decide +kernel
theorem dX11_meet_100 : decode cX11_meet 100 = .ok (.iload 4, 2) := by decide +kernel
theorem dX11_meet_102 : decode cX11_meet 102 = .ok (.iadd, 1) := by decide +kernel
theorem dX11_meet_103 : decode cX11_meet 103 = .ok (.dup2, 1) := by decide +kernel
theorem dX11_meet_104 : decode cX11_meet 104 = .ok (.iaload, 1) := by decide +kernel
theorem dX11_meet_105 : decode cX11_meet 105 = .ok (.iload_n 3, 1) := by decide +kernel
theorem dX11_meet_106 : decode cX11_meet 106 = .ok (.isub, 1) := by decide +kernel
theorem dX11_meet_107 : decode cX11_meet 107 = .ok (.iastore, 1) := by decide +kernel
theorem dX11_meet_108 : decode cX11_meet 108 = .ok (.aload_n 0, 1) := by decide +kernel
theorem dX11_meet_109 : decode cX11_meet 109 = .ok (.getfield 26, 3) := by decide +kernel
theorem dX11_meet_112 : decode cX11_meet 112 = .ok (.bipush 21, 2) := by decide +kernel
theorem dX11_meet_114 : decode cX11_meet 114 = .ok (.dup2, 1) := by decide +kernel
theorem dX11_meet_115 : decode cX11_meet 115 = .ok (.iaload, 1) := by decide +kernel
theorem dX11_meet_116 : decode cX11_meet 116 = .ok (.iload_n 3, 1) := by decide +kernel
theorem dX11_meet_117 : decode cX11_meet 117 = .ok (.iadd, 1) := by decide +kernel
theorem dX11_meet_118 : decode cX11_meet 118 = .ok (.iastore, 1) := by decide +kernel
theorem dX11_meet_119 : decode cX11_meet 119 = .ok (.aload_n 0, 1) := by decide +kernel
theorem dX11_meet_120 : decode cX11_meet 120 = .ok (.getfield 26, 3) := by decide +kernel
theorem dX11_meet_123 : decode cX11_meet 123 = .ok (.bipush 19, 2) := by decide +kernel
theorem dX11_meet_125 : decode cX11_meet 125 = .ok (.dup2, 1) := by decide +kernel
theorem dX11_meet_126 : decode cX11_meet 126 = .ok (.iaload, 1) := by decide +kernel
theorem dX11_meet_127 : decode cX11_meet 127 = .ok (.iconst 1, 1) := by decide +kernel
theorem dX11_meet_128 : decode cX11_meet 128 = .ok (.iload_n 1, 1) := by decide +kernel
theorem dX11_meet_129 : decode cX11_meet 129 = .ok (.ishl, 1) := by decide +kernel
theorem dX11_meet_130 : decode cX11_meet 130 = .ok (.iconst 1, 1) := by decide +kernel
theorem dX11_meet_131 : decode cX11_meet 131 = .ok (.iload_n 2, 1) := by decide +kernel
theorem dX11_meet_132 : decode cX11_meet 132 = .ok (.ishl, 1) := by decide +kernel
theorem dX11_meet_133 : decode cX11_meet 133 = .ok (.ior, 1) := by decide +kernel
theorem dX11_meet_134 : decode cX11_meet 134 = .ok (.ior, 1) := by decide +kernel
theorem dX11_meet_135 : decode cX11_meet 135 = .ok (.iastore, 1) := by decide +kernel
theorem dX11_meet_136 : decode cX11_meet 136 = .ok (.iload_n 3, 1) := by decide +kernel
theorem dX11_meet_137 : decode cX11_meet 137 = .ok (.ireturn, 1) := by decide +kernel
theorem dX11_undo_0 : decode cX11_undo 0 = .ok (.aload_n 0, 1) := by decide +kernel
theorem dX11_undo_1 : decode cX11_undo 1 = .ok (.invokevirtual 153, 3) := by decide +kernel
theorem dX11_undo_4 : decode cX11_undo 4 = .ok (.aload_n 0, 1) := by decide +kernel
theorem dX11_undo_5 : decode cX11_undo 5 = .ok (.getfield 169, 3) := by decide +kernel
theorem dX11_undo_8 : decode cX11_undo 8 = .ok (.ifCond .ne 10, 3) := by decide +kernel
theorem dX11_undo_11 : decode cX11_undo 11 = .ok (.aload_n 0, 1) := by decide +kernel
theorem dX11_undo_12 : decode cX11_undo 12 = .ok (.bipush 6, 2) := by decide +kernel
theorem dX11_undo_14 : decode cX11_undo 14 = .ok (.invokevirtual 405, 3) := by decide +kernel
theorem dX11_undo_17 : decode cX11_undo 17 = .ok (.ireturn, 1) := by decide +kernel
theorem dX11_undo_18 : decode cX11_undo 18 = .ok (.aload_n 0, 1) := by decide +kernel
theorem dX11_undo_19 : decode cX11_undo 19 = .ok (.dup, 1) := by decide +kernel
theorem dX11_undo_20 : decode cX11_undo 20 = .ok (.getfield 169, 3) := by decide +kernel
theorem dX11_undo_23 : decode cX11_undo 23 = .ok (.iconst 1, 1) := by decide +kernel
theorem dX11_undo_24 : decode cX11_undo 24 = .ok (.isub, 1) := by decide +kernel
theorem dX11_undo_25 : decode cX11_undo 25 = .ok (.putfield 169, 3) := by decide +kernel
theorem dX11_undo_28 : decode cX11_undo 28 = .ok (.aload_n 0, 1) := by decide +kernel
theorem dX11_undo_29 : decode cX11_undo 29 = .ok (.getfield 29, 3) := by decide +kernel
theorem dX11_undo_32 : decode cX11_undo 32 = .ok (.bipush 22, 2) := by decide +kernel
theorem dX11_undo_34 : decode cX11_undo 34 = .ok (.aload_n 0, 1) := by decide +kernel
theorem dX11_undo_35 : decode cX11_undo 35 = .ok (.getfield 169, 3) := by decide +kernel
theorem dX11_undo_38 : decode cX11_undo 38 = .ok (.imul, 1) := by decide +kernel
theorem dX11_undo_39 : decode cX11_undo 39 = .ok (.aload_n 0, 1) := by decide +kernel
theorem dX11_undo_40 : decode cX11_undo 40 = .ok (.getfield 26, 3) := by decide +kernel
theorem dX11_undo_43 : decode cX11_undo 43 = .ok (.iconst 0, 1) := by decide +kernel
theorem dX11_undo_44 : decode cX11_undo 44 = .ok (.bipush 22, 2) := by decide +kernel
theorem dX11_undo_46 : decode cX11_undo 46 = .ok (.invokestatic 162, 3) := by decide +kernel
theorem dX11_undo_49 : decode cX11_undo 49 = .ok (.iconst 1, 1) := by decide +kernel
theorem dX11_undo_50 : decode cX11_undo 50 = .ok (.ireturn, 1) := by decide +kernel
theorem dX11_image_0 : decode cX11_image 0 = .ok (.aload_n 0, 1) := by decide +kernel
theorem dX11_image_1 : decode cX11_image 1 = .ok (.invokevirtual 153, 3) := by decide +kernel
theorem dX11_image_4 : decode cX11_image 4 = .ok (.aload_n 0, 1) := by decide +kernel
theorem dX11_image_5 : decode cX11_image 5 = .ok (.getfield 166, 3) := by decide +kernel
theorem dX11_image_8 : decode cX11_image 8 = .ok (.ifCond .ne 9, 3) := by decide +kernel
theorem dX11_image_11 : decode cX11_image 11 = .ok (.aload_n 0, 1) := by decide +kernel
theorem dX11_image_12 : decode cX11_image 12 = .ok (.iconst 1, 1) := by decide +kernel
theorem dX11_image_13 : decode cX11_image 13 = .ok (.invokevirtual 156, 3) := by decide +kernel
theorem dX11_image_16 : decode cX11_image 16 = .ok (.ireturn, 1) := by decide +kernel
theorem dX11_image_17 : decode cX11_image 17 = .ok (.aload_n 0, 1) := by decide +kernel
theorem dX11_image_18 : decode cX11_image 18 = .ok (.getfield 172, 3) := by decide +kernel
theorem dX11_image_21 : decode cX11_image 21 = .ok (.iconst 3, 1) := by decide +kernel
theorem dX11_image_22 : decode cX11_image 22 = .ok (.if_icmp .ne 9, 3) := by decide +kernel
theorem dX11_image_25 : decode cX11_image 25 = .ok (.aload_n 0, 1) := by decide +kernel
theorem dX11_image_26 : decode cX11_image 26 = .ok (.iconst 3, 1) := by decide +kernel
theorem dX11_image_27 : decode cX11_image 27 = .ok (.invokevirtual 156, 3) := by decide +kernel
theorem dX11_image_30 : decode cX11_image 30 = .ok (.ireturn, 1) := by decide +kernel
theorem dX11_image_31 : decode cX11_image 31 = .ok (.aload_n 0, 1) := by decide +kernel
theorem dX11_image_32 : decode cX11_image 32 = .ok (.getfield 26, 3) := by decide +kernel
theorem dX11_image_35 : decode cX11_image 35 = .ok (.iconst 0, 1) := by decide +kernel
theorem dX11_image_36 : decode cX11_image 36 = .ok (.aload_n 0, 1) := by decide +kernel
theorem dX11_image_37 : decode cX11_image 37 = .ok (.getfield 32, 3) := by decide +kernel
theorem dX11_image_40 : decode cX11_image 40 = .ok (.bipush 22, 2) := by decide +kernel
theorem dX11_image_42 : decode cX11_image 42 = .ok (.aload_n 0, 1) := by decide +kernel
theorem dX11_image_43 : decode cX11_image 43 = .ok (.getfield 172, 3) := by decide +kernel
theorem dX11_image_46 : decode cX11_image 46 = .ok (.imul, 1) := by decide +kernel
theorem dX11_image_47 : decode cX11_image 47 = .ok (.bipush 22, 2) := by decide +kernel
theorem dX11_image_49 : decode cX11_image 49 = .ok (.invokestatic 162, 3) := by decide +kernel
theorem dX11_image_52 : decode cX11_image 52 = .ok (.aload_n 0, 1) := by decide +kernel
theorem dX11_image_53 : decode cX11_image 53 = .ok (.dup, 1) := by decide +kernel
theorem dX11_image_54 : decode cX11_image 54 = .ok (.getfield 172, 3) := by decide +kernel
theorem dX11_image_57 : decode cX11_image 57 = .ok (.iconst 1, 1) := by decide +kernel
theorem dX11_image_58 : decode cX11_image 58 = .ok (.iadd, 1) := by decide +kernel
theorem dX11_image_59 : decode cX11_image 59 = .ok (.putfield 172, 3) := by decide +kernel
theorem dX11_image_62 : decode cX11_image 62 = .ok (.aload_n 0, 1) := by decide +kernel
theorem dX11_image_63 : decode cX11_image 63 = .ok (.getfield 172, 3) := by decide +kernel
theorem dX11_image_66 : decode cX11_image 66 = .ok (.iconst 1, 1) := by decide +kernel
theorem dX11_image_67 : decode cX11_image 67 = .ok (.isub, 1) := by decide +kernel
theorem dX11_image_68 : decode cX11_image 68 = .ok (.ireturn, 1) := by decide +kernel
theorem dX11_back_0 : decode cX11_back 0 = .ok (.aload_n 0, 1) := by decide +kernel
theorem dX11_back_1 : decode cX11_back 1 = .ok (.invokevirtual 153, 3) := by decide +kernel
theorem dX11_back_4 : decode cX11_back 4 = .ok (.iload_n 1, 1) := by decide +kernel
theorem dX11_back_5 : decode cX11_back 5 = .ok (.iconst 0, 1) := by decide +kernel
theorem dX11_back_6 : decode cX11_back 6 = .ok (.aload_n 0, 1) := by decide +kernel
theorem dX11_back_7 : decode cX11_back 7 = .ok (.getfield 172, 3) := by decide +kernel
theorem dX11_back_10 : decode cX11_back 10 = .ok (.iconst 1, 1) := by decide +kernel
theorem dX11_back_11 : decode cX11_back 11 = .ok (.isub, 1) := by decide +kernel
theorem dX11_back_12 : decode cX11_back 12 = .ok (.invokestatic 138, 3) := by decide +kernel
theorem dX11_back_15 : decode cX11_back 15 = .ok (.ifCond .ne 9, 3) := by decide +kernel
theorem dX11_back_18 : decode cX11_back 18 = .ok (.aload_n 0, 1) := by decide +kernel
theorem dX11_back_19 : decode cX11_back 19 = .ok (.iconst 1, 1) := by decide +kernel
theorem dX11_back_20 : decode cX11_back 20 = .ok (.invokevirtual 405, 3) := by decide +kernel
theorem dX11_back_23 : decode cX11_back 23 = .ok (.ireturn, 1) := by decide +kernel
theorem dX11_back_24 : decode cX11_back 24 = .ok (.aload_n 0, 1) := by decide +kernel
theorem dX11_back_25 : decode cX11_back 25 = .ok (.getfield 32, 3) := by decide +kernel
theorem dX11_back_28 : decode cX11_back 28 = .ok (.bipush 22, 2) := by decide +kernel
theorem dX11_back_30 : decode cX11_back 30 = .ok (.iload_n 1, 1) := by decide +kernel
theorem dX11_back_31 : decode cX11_back 31 = .ok (.imul, 1) := by decide +kernel
theorem dX11_back_32 : decode cX11_back 32 = .ok (.aload_n 0, 1) := by decide +kernel
theorem dX11_back_33 : decode cX11_back 33 = .ok (.getfield 26, 3) := by decide +kernel
theorem dX11_back_36 : decode cX11_back 36 = .ok (.iconst 0, 1) := by decide +kernel
theorem dX11_back_37 : decode cX11_back 37 = .ok (.bipush 22, 2) := by decide +kernel
theorem dX11_back_39 : decode cX11_back 39 = .ok (.invokestatic 162, 3) := by decide +kernel
theorem dX11_back_42 : decode cX11_back 42 = .ok (.aload_n 0, 1) := by decide +kernel
theorem dX11_back_43 : decode cX11_back 43 = .ok (.iconst 0, 1) := by decide +kernel
theorem dX11_back_44 : decode cX11_back 44 = .ok (.putfield 169, 3) := by decide +kernel
theorem dX11_back_47 : decode cX11_back 47 = .ok (.iconst 1, 1) := by decide +kernel
theorem dX11_back_48 : decode cX11_back 48 = .ok (.ireturn, 1) := by decide +kernel
theorem dX11_led_0 : decode cX11_led 0 = .ok (.iconst 0, 1) := by decide +kernel
theorem dX11_led_1 : decode cX11_led 1 = .ok (.istore_n 2, 1) := by decide +kernel
theorem dX11_led_2 : decode cX11_led 2 = .ok (.iconst 0, 1) := by decide +kernel
theorem dX11_led_3 : decode cX11_led 3 = .ok (.istore_n 3, 1) := by decide +kernel
theorem dX11_led_4 : decode cX11_led 4 = .ok (.aload_n 0, 1) := by decide +kernel
theorem dX11_led_5 : decode cX11_led 5 = .ok (.getfield 166, 3) := by decide +kernel
theorem dX11_led_8 : decode cX11_led 8 = .ok (.ifCond .eq 45, 3) := by decide +kernel
theorem dX11_led_11 : decode cX11_led 11 = .ok (.iload_n 3, 1) := by decide +kernel
theorem dX11_led_12 : decode cX11_led 12 = .ok (.aload_n 0, 1) := by decide +kernel
theorem dX11_led_13 : decode cX11_led 13 = .ok (.getfield 20, 3) := by decide +kernel
theorem dX11_led_16 : decode cX11_led 16 = .ok (.iconst 4, 1) := by decide +kernel
theorem dX11_led_17 : decode cX11_led 17 = .ok (.iaload, 1) := by decide +kernel
theorem dX11_led_18 : decode cX11_led 18 = .ok (.if_icmp .ge 35, 3) := by decide +kernel
theorem dX11_led_21 : decode cX11_led 21 = .ok (.aload_n 0, 1) := by decide +kernel
theorem dX11_led_22 : decode cX11_led 22 = .ok (.iload_n 3, 1) := by decide +kernel
theorem dX11_led_23 : decode cX11_led 23 = .ok (.invokevirtual 262, 3) := by decide +kernel
theorem dX11_led_26 : decode cX11_led 26 = .ok (.ifCond .ne 6, 3) := by decide +kernel
theorem dX11_led_29 : decode cX11_led 29 = .ok (.goto 18, 3) := by decide +kernel
theorem dX11_led_32 : decode cX11_led 32 = .ok (.iload_n 2, 1) := by decide +kernel
theorem dX11_led_33 : decode cX11_led 33 = .ok (.iload_n 1, 1) := by decide +kernel
theorem dX11_led_34 : decode cX11_led 34 = .ok (.if_icmp .ne 10, 3) := by decide +kernel
theorem dX11_led_37 : decode cX11_led 37 = .ok (.aload_n 0, 1) := by decide +kernel
theorem dX11_led_38 : decode cX11_led 38 = .ok (.iconst 0, 1) := by decide +kernel
theorem dX11_led_39 : decode cX11_led 39 = .ok (.putfield 53, 3) := by decide +kernel
theorem dX11_led_42 : decode cX11_led 42 = .ok (.iload_n 3, 1) := by decide +kernel
theorem dX11_led_43 : decode cX11_led 43 = .ok (.ireturn, 1) := by decide +kernel
theorem dX11_led_44 : decode cX11_led 44 = .ok (.iinc 2 1, 3) := by decide +kernel
theorem dX11_led_47 : decode cX11_led 47 = .ok (.iinc 3 1, 3) := by decide +kernel
theorem dX11_led_50 : decode cX11_led 50 = .ok (.goto (-46), 3) := by decide +kernel
theorem dX11_led_53 : decode cX11_led 53 = .ok (.aload_n 0, 1) := by decide +kernel
theorem dX11_led_54 : decode cX11_led 54 = .ok (.iconst 1, 1) := by decide +kernel
theorem dX11_led_55 : decode cX11_led 55 = .ok (.putfield 53, 3) := by decide +kernel
theorem dX11_led_58 : decode cX11_led 58 = .ok (.iconst 0, 1) := by decide +kernel
theorem dX11_led_59 : decode cX11_led 59 = .ok (.ireturn, 1) := by decide +kernel
theorem dX11_size_0 : decode cX11_size 0 = .ok (.aload_n 0, 1) := by decide +kernel
theorem dX11_size_1 : decode cX11_size 1 = .ok (.iconst 0, 1) := by decide +kernel
theorem dX11_size_2 : decode cX11_size 2 = .ok (.putfield 53, 3) := by decide +kernel
theorem dX11_size_5 : decode cX11_size 5 = .ok (.iload_n 1, 1) := by decide +kernel
theorem dX11_size_6 : decode cX11_size 6 = .ok (.bipush 11, 2) := by decide +kernel
theorem dX11_size_8 : decode cX11_size 8 = .ok (.if_icmp .ne 8, 3) := by decide +kernel
theorem dX11_size_11 : decode cX11_size 11 = .ok (.aload_n 0, 1) := by decide +kernel
theorem dX11_size_12 : decode cX11_size 12 = .ok (.getfield 59, 3) := by decide +kernel
theorem dX11_size_15 : decode cX11_size 15 = .ok (.ireturn, 1) := by decide +kernel
theorem dX11_size_16 : decode cX11_size 16 = .ok (.aload_n 0, 1) := by decide +kernel
theorem dX11_size_17 : decode cX11_size 17 = .ok (.getfield 166, 3) := by decide +kernel
theorem dX11_size_20 : decode cX11_size 20 = .ok (.ifCond .ne 19, 3) := by decide +kernel
theorem dX11_size_23 : decode cX11_size 23 = .ok (.iload_n 1, 1) := by decide +kernel
theorem dX11_size_24 : decode cX11_size 24 = .ok (.iconst 0, 1) := by decide +kernel
theorem dX11_size_25 : decode cX11_size 25 = .ok (.bipush 10, 2) := by decide +kernel
theorem dX11_size_27 : decode cX11_size 27 = .ok (.invokestatic 138, 3) := by decide +kernel
theorem dX11_size_30 : decode cX11_size 30 = .ok (.ifCond .eq 7, 3) := by decide +kernel
theorem dX11_size_33 : decode cX11_size 33 = .ok (.iconst 0, 1) := by decide +kernel
theorem dX11_size_34 : decode cX11_size 34 = .ok (.goto 4, 3) := by decide +kernel
theorem dX11_size_37 : decode cX11_size 37 = .ok (.iconst (-1), 1) := by decide +kernel
theorem dX11_size_38 : decode cX11_size 38 = .ok (.ireturn, 1) := by decide +kernel
theorem dX11_size_39 : decode cX11_size 39 = .ok (.iload_n 1, 1) := by decide +kernel
theorem dX11_size_40 : decode cX11_size 40 = .ok (.iconst 0, 1) := by decide +kernel
theorem dX11_size_41 : decode cX11_size 41 = .ok (.bipush 6, 2) := by decide +kernel
theorem dX11_size_43 : decode cX11_size 43 = .ok (.invokestatic 138, 3) := by decide +kernel
theorem dX11_size_46 : decode cX11_size 46 = .ok (.ifCond .eq 10, 3) := by decide +kernel
theorem dX11_size_49 : decode cX11_size 49 = .ok (.aload_n 0, 1) := by decide +kernel
theorem dX11_size_50 : decode cX11_size 50 = .ok (.getfield 20, 3) := by decide +kernel
theorem dX11_size_53 : decode cX11_size 53 = .ok (.iload_n 1, 1) := by decide +kernel
theorem dX11_size_54 : decode cX11_size 54 = .ok (.iaload, 1) := by decide +kernel
theorem dX11_size_55 : decode cX11_size 55 = .ok (.ireturn, 1) := by decide +kernel
theorem dX11_size_56 : decode cX11_size 56 = .ok (.iload_n 1, 1) := by decide +kernel
theorem dX11_size_57 : decode cX11_size 57 = .ok (.bipush 7, 2) := by decide +kernel
theorem dX11_size_59 : decode cX11_size 59 = .ok (.if_icmp .ne 13, 3) := by decide +kernel
theorem dX11_size_62 : decode cX11_size 62 = .ok (.aload_n 0, 1) := by decide +kernel
theorem dX11_size_63 : decode cX11_size 63 = .ok (.getfield 26, 3) := by decide +kernel
theorem dX11_size_66 : decode cX11_size 66 = .ok (.bipush 20, 2) := by decide +kernel
theorem dX11_size_68 : decode cX11_size 68 = .ok (.iaload, 1) := by decide +kernel
theorem dX11_size_69 : decode cX11_size 69 = .ok (.goto 46, 3) := by decide +kernel
theorem dX11_size_72 : decode cX11_size 72 = .ok (.iload_n 1, 1) := by decide +kernel
theorem dX11_size_73 : decode cX11_size 73 = .ok (.bipush 8, 2) := by decide +kernel
theorem dX11_size_75 : decode cX11_size 75 = .ok (.if_icmp .ne 13, 3) := by decide +kernel
theorem dX11_size_78 : decode cX11_size 78 = .ok (.aload_n 0, 1) := by decide +kernel
theorem dX11_size_79 : decode cX11_size 79 = .ok (.getfield 26, 3) := by decide +kernel
theorem dX11_size_82 : decode cX11_size 82 = .ok (.bipush 21, 2) := by decide +kernel
theorem dX11_size_84 : decode cX11_size 84 = .ok (.iaload, 1) := by decide +kernel
theorem dX11_size_85 : decode cX11_size 85 = .ok (.goto 30, 3) := by decide +kernel
theorem dX11_size_88 : decode cX11_size 88 = .ok (.iload_n 1, 1) := by decide +kernel
theorem dX11_size_89 : decode cX11_size 89 = .ok (.bipush 9, 2) := by decide +kernel
theorem dX11_size_91 : decode cX11_size 91 = .ok (.if_icmp .ne 10, 3) := by decide +kernel
theorem dX11_size_94 : decode cX11_size 94 = .ok (.aload_n 0, 1) := by decide +kernel
theorem dX11_size_95 : decode cX11_size 95 = .ok (.getfield 169, 3) := by decide +kernel
theorem dX11_size_98 : decode cX11_size 98 = .ok (.goto 17, 3) := by decide +kernel
theorem dX11_size_101 : decode cX11_size 101 = .ok (.iload_n 1, 1) := by decide +kernel
theorem dX11_size_102 : decode cX11_size 102 = .ok (.bipush 10, 2) := by decide +kernel
theorem dX11_size_104 : decode cX11_size 104 = .ok (.if_icmp .ne 10, 3) := by decide +kernel
theorem dX11_size_107 : decode cX11_size 107 = .ok (.aload_n 0, 1) := by decide +kernel
theorem dX11_size_108 : decode cX11_size 108 = .ok (.getfield 172, 3) := by decide +kernel
theorem dX11_size_111 : decode cX11_size 111 = .ok (.goto 4, 3) := by decide +kernel
theorem dX11_size_114 : decode cX11_size 114 = .ok (.iconst (-1), 1) := by decide +kernel
theorem dX11_size_115 : decode cX11_size 115 = .ok (.ireturn, 1) := by decide +kernel
theorem dX11_trouble_0 : decode cX11_trouble 0 = .ok (.aload_n 0, 1) := by decide +kernel
theorem dX11_trouble_1 : decode cX11_trouble 1 = .ok (.iconst 0, 1) := by decide +kernel
theorem dX11_trouble_2 : decode cX11_trouble 2 = .ok (.putfield 53, 3) := by decide +kernel
theorem dX11_trouble_5 : decode cX11_trouble 5 = .ok (.aload_n 0, 1) := by decide +kernel
theorem dX11_trouble_6 : decode cX11_trouble 6 = .ok (.getfield 56, 3) := by decide +kernel
theorem dX11_trouble_9 : decode cX11_trouble 9 = .ok (.ireturn, 1) := by decide +kernel
theorem dJ6_bitCount_0f7a4_0 : decode cJ6_bitCount_0f7a4 0 = .ok (.iload_n 0, 1) := by decide +kernel
theorem dJ6_bitCount_0f7a4_1 : decode cJ6_bitCount_0f7a4 1 = .ok (.iload_n 0, 1) := by decide +kernel
theorem dJ6_bitCount_0f7a4_2 : decode cJ6_bitCount_0f7a4 2 = .ok (.iconst 1, 1) := by decide +kernel
theorem dJ6_bitCount_0f7a4_3 : decode cJ6_bitCount_0f7a4 3 = .ok (.iushr, 1) := by decide +kernel
theorem dJ6_bitCount_0f7a4_4 : decode cJ6_bitCount_0f7a4 4 = .ok (.ldc_w 265, 3) := by decide +kernel
theorem dJ6_bitCount_0f7a4_7 : decode cJ6_bitCount_0f7a4 7 = .ok (.iand, 1) := by decide +kernel
theorem dJ6_bitCount_0f7a4_8 : decode cJ6_bitCount_0f7a4 8 = .ok (.isub, 1) := by decide +kernel
theorem dJ6_bitCount_0f7a4_9 : decode cJ6_bitCount_0f7a4 9 = .ok (.istore_n 0, 1) := by decide +kernel
theorem dJ6_bitCount_0f7a4_10 : decode cJ6_bitCount_0f7a4 10 = .ok (.iload_n 0, 1) := by decide +kernel
theorem dJ6_bitCount_0f7a4_11 : decode cJ6_bitCount_0f7a4 11 = .ok (.ldc_w 266, 3) := by decide +kernel
theorem dJ6_bitCount_0f7a4_14 : decode cJ6_bitCount_0f7a4 14 = .ok (.iand, 1) := by decide +kernel
theorem dJ6_bitCount_0f7a4_15 : decode cJ6_bitCount_0f7a4 15 = .ok (.iload_n 0, 1) := by decide +kernel
theorem dJ6_bitCount_0f7a4_16 : decode cJ6_bitCount_0f7a4 16 = .ok (.iconst 2, 1) := by decide +kernel
theorem dJ6_bitCount_0f7a4_17 : decode cJ6_bitCount_0f7a4 17 = .ok (.iushr, 1) := by decide +kernel
theorem dJ6_bitCount_0f7a4_18 : decode cJ6_bitCount_0f7a4 18 = .ok (.ldc_w 266, 3) := by decide +kernel
theorem dJ6_bitCount_0f7a4_21 : decode cJ6_bitCount_0f7a4 21 = .ok (.iand, 1) := by decide +kernel
theorem dJ6_bitCount_0f7a4_22 : decode cJ6_bitCount_0f7a4 22 = .ok (.iadd, 1) := by decide +kernel
theorem dJ6_bitCount_0f7a4_23 : decode cJ6_bitCount_0f7a4 23 = .ok (.istore_n 0, 1) := by decide +kernel
theorem dJ6_bitCount_0f7a4_24 : decode cJ6_bitCount_0f7a4 24 = .ok (.iload_n 0, 1) := by decide +kernel
theorem dJ6_bitCount_0f7a4_25 : decode cJ6_bitCount_0f7a4 25 = .ok (.iload_n 0, 1) := by decide +kernel
theorem dJ6_bitCount_0f7a4_26 : decode cJ6_bitCount_0f7a4 26 = .ok (.iconst 4, 1) := by decide +kernel
theorem dJ6_bitCount_0f7a4_27 : decode cJ6_bitCount_0f7a4 27 = .ok (.iushr, 1) := by decide +kernel
theorem dJ6_bitCount_0f7a4_28 : decode cJ6_bitCount_0f7a4 28 = .ok (.iadd, 1) := by decide +kernel
theorem dJ6_bitCount_0f7a4_29 : decode cJ6_bitCount_0f7a4 29 = .ok (.ldc_w 267, 3) := by decide +kernel
theorem dJ6_bitCount_0f7a4_32 : decode cJ6_bitCount_0f7a4 32 = .ok (.iand, 1) := by decide +kernel
theorem dJ6_bitCount_0f7a4_33 : decode cJ6_bitCount_0f7a4 33 = .ok (.istore_n 0, 1) := by decide +kernel
theorem dJ6_bitCount_0f7a4_34 : decode cJ6_bitCount_0f7a4 34 = .ok (.iload_n 0, 1) := by decide +kernel
theorem dJ6_bitCount_0f7a4_35 : decode cJ6_bitCount_0f7a4 35 = .ok (.iload_n 0, 1) := by decide +kernel
theorem dJ6_bitCount_0f7a4_36 : decode cJ6_bitCount_0f7a4 36 = .ok (.bipush 8, 2) := by decide +kernel
theorem dJ6_bitCount_0f7a4_38 : decode cJ6_bitCount_0f7a4 38 = .ok (.iushr, 1) := by decide +kernel
theorem dJ6_bitCount_0f7a4_39 : decode cJ6_bitCount_0f7a4 39 = .ok (.iadd, 1) := by decide +kernel
theorem dJ6_bitCount_0f7a4_40 : decode cJ6_bitCount_0f7a4 40 = .ok (.istore_n 0, 1) := by decide +kernel
theorem dJ6_bitCount_0f7a4_41 : decode cJ6_bitCount_0f7a4 41 = .ok (.iload_n 0, 1) := by decide +kernel
theorem dJ6_bitCount_0f7a4_42 : decode cJ6_bitCount_0f7a4 42 = .ok (.iload_n 0, 1) := by decide +kernel
theorem dJ6_bitCount_0f7a4_43 : decode cJ6_bitCount_0f7a4 43 = .ok (.bipush 16, 2) := by decide +kernel
theorem dJ6_bitCount_0f7a4_45 : decode cJ6_bitCount_0f7a4 45 = .ok (.iushr, 1) := by decide +kernel
theorem dJ6_bitCount_0f7a4_46 : decode cJ6_bitCount_0f7a4 46 = .ok (.iadd, 1) := by decide +kernel
theorem dJ6_bitCount_0f7a4_47 : decode cJ6_bitCount_0f7a4 47 = .ok (.istore_n 0, 1) := by decide +kernel
theorem dJ6_bitCount_0f7a4_48 : decode cJ6_bitCount_0f7a4 48 = .ok (.iload_n 0, 1) := by decide +kernel
theorem dJ6_bitCount_0f7a4_49 : decode cJ6_bitCount_0f7a4 49 = .ok (.bipush 63, 2) := by decide +kernel
theorem dJ6_bitCount_0f7a4_51 : decode cJ6_bitCount_0f7a4 51 = .ok (.iand, 1) := by decide +kernel
theorem dJ6_bitCount_0f7a4_52 : decode cJ6_bitCount_0f7a4 52 = .ok (.ireturn, 1) := by decide +kernel
theorem dJ9_abs_0f7a4_0 : decode cJ9_abs_0f7a4 0 = .ok (.iload_n 0, 1) := by decide +kernel
theorem dJ9_abs_0f7a4_1 : decode cJ9_abs_0f7a4 1 = .ok (.ifCond .ge 8, 3) := by decide +kernel
theorem dJ9_abs_0f7a4_4 : decode cJ9_abs_0f7a4 4 = .ok (.iload_n 0, 1) := by decide +kernel
theorem dJ9_abs_0f7a4_5 : decode cJ9_abs_0f7a4 5 = .ok (.ineg, 1) := by decide +kernel
theorem dJ9_abs_0f7a4_6 : decode cJ9_abs_0f7a4 6 = .ok (.goto 4, 3) := by decide +kernel
theorem dJ9_abs_0f7a4_9 : decode cJ9_abs_0f7a4 9 = .ok (.iload_n 0, 1) := by decide +kernel
theorem dJ9_abs_0f7a4_10 : decode cJ9_abs_0f7a4 10 = .ok (.ireturn, 1) := by decide +kernel
theorem dJ9_max_7cf53_0 : decode cJ9_max_7cf53 0 = .ok (.iload_n 0, 1) := by decide +kernel
theorem dJ9_max_7cf53_1 : decode cJ9_max_7cf53 1 = .ok (.iload_n 1, 1) := by decide +kernel
theorem dJ9_max_7cf53_2 : decode cJ9_max_7cf53 2 = .ok (.if_icmp .lt 7, 3) := by decide +kernel
theorem dJ9_max_7cf53_5 : decode cJ9_max_7cf53 5 = .ok (.iload_n 0, 1) := by decide +kernel
theorem dJ9_max_7cf53_6 : decode cJ9_max_7cf53 6 = .ok (.goto 4, 3) := by decide +kernel
theorem dJ9_max_7cf53_9 : decode cJ9_max_7cf53 9 = .ok (.iload_n 1, 1) := by decide +kernel
theorem dJ9_max_7cf53_10 : decode cJ9_max_7cf53 10 = .ok (.ireturn, 1) := by decide +kernel
theorem dJ9_min_7cf53_0 : decode cJ9_min_7cf53 0 = .ok (.iload_n 0, 1) := by decide +kernel
theorem dJ9_min_7cf53_1 : decode cJ9_min_7cf53 1 = .ok (.iload_n 1, 1) := by decide +kernel
theorem dJ9_min_7cf53_2 : decode cJ9_min_7cf53 2 = .ok (.if_icmp .gt 7, 3) := by decide +kernel
theorem dJ9_min_7cf53_5 : decode cJ9_min_7cf53 5 = .ok (.iload_n 0, 1) := by decide +kernel
theorem dJ9_min_7cf53_6 : decode cJ9_min_7cf53 6 = .ok (.goto 4, 3) := by decide +kernel
theorem dJ9_min_7cf53_9 : decode cJ9_min_7cf53 9 = .ok (.iload_n 1, 1) := by decide +kernel
theorem dJ9_min_7cf53_10 : decode cJ9_min_7cf53 10 = .ok (.ireturn, 1) := by decide +kernel
theorem dJ0_length_8abf5_0 : decode cJ0_length_8abf5 0 = .ok (.aload_n 0, 1) := by decide +kernel
theorem dJ0_length_8abf5_1 : decode cJ0_length_8abf5 1 = .ok (.getfield 9, 3) := by decide +kernel
theorem dJ0_length_8abf5_4 : decode cJ0_length_8abf5 4 = .ok (.arraylength, 1) := by decide +kernel
theorem dJ0_length_8abf5_5 : decode cJ0_length_8abf5 5 = .ok (.aload_n 0, 1) := by decide +kernel
theorem dJ0_length_8abf5_6 : decode cJ0_length_8abf5 6 = .ok (.invokevirtual 335, 3) := by decide +kernel
theorem dJ0_length_8abf5_9 : decode cJ0_length_8abf5 9 = .ok (.ishr, 1) := by decide +kernel
theorem dJ0_length_8abf5_10 : decode cJ0_length_8abf5 10 = .ok (.ireturn, 1) := by decide +kernel
theorem dJ0_charAt_5068e_0 : decode cJ0_charAt_5068e 0 = .ok (.aload_n 0, 1) := by decide +kernel
theorem dJ0_charAt_5068e_1 : decode cJ0_charAt_5068e 1 = .ok (.invokevirtual 492, 3) := by decide +kernel
theorem dJ0_charAt_5068e_4 : decode cJ0_charAt_5068e 4 = .ok (.ifCond .eq 12, 3) := by decide +kernel
theorem dJ0_charAt_5068e_7 : decode cJ0_charAt_5068e 7 = .ok (.aload_n 0, 1) := by decide +kernel
theorem dJ0_charAt_5068e_8 : decode cJ0_charAt_5068e 8 = .ok (.getfield 9, 3) := by decide +kernel
theorem dJ0_charAt_5068e_11 : decode cJ0_charAt_5068e 11 = .ok (.iload_n 1, 1) := by decide +kernel
theorem dJ0_charAt_5068e_12 : decode cJ0_charAt_5068e 12 = .ok (.invokestatic 495, 3) := by decide +kernel
theorem dJ0_charAt_5068e_15 : decode cJ0_charAt_5068e 15 = .ok (.ireturn, 1) := by decide +kernel
theorem dJ0_charAt_5068e_16 : decode cJ0_charAt_5068e 16 = .ok (.aload_n 0, 1) := by decide +kernel
theorem dJ0_charAt_5068e_17 : decode cJ0_charAt_5068e 17 = .ok (.getfield 9, 3) := by decide +kernel
theorem dJ0_charAt_5068e_20 : decode cJ0_charAt_5068e 20 = .ok (.iload_n 1, 1) := by decide +kernel
theorem dJ0_charAt_5068e_21 : decode cJ0_charAt_5068e 21 = .ok (.invokestatic 498, 3) := by decide +kernel
theorem dJ0_charAt_5068e_24 : decode cJ0_charAt_5068e 24 = .ok (.ireturn, 1) := by decide +kernel
theorem dJ0_coder_7d493_0 : decode cJ0_coder_7d493 0 = .ok (.getstatic 38, 3) := by decide +kernel
theorem dJ0_coder_7d493_3 : decode cJ0_coder_7d493 3 = .ok (.ifCond .eq 10, 3) := by decide +kernel
theorem dJ0_coder_7d493_6 : decode cJ0_coder_7d493 6 = .ok (.aload_n 0, 1) := by decide +kernel
theorem dJ0_coder_7d493_7 : decode cJ0_coder_7d493 7 = .ok (.getfield 15, 3) := by decide +kernel
theorem dJ0_coder_7d493_10 : decode cJ0_coder_7d493 10 = .ok (.goto 4, 3) := by decide +kernel
theorem dJ0_coder_7d493_13 : decode cJ0_coder_7d493 13 = .ok (.iconst 1, 1) := by decide +kernel
theorem dJ0_coder_7d493_14 : decode cJ0_coder_7d493 14 = .ok (.ireturn, 1) := by decide +kernel
theorem dJ0_isLatin1_aae02_0 : decode cJ0_isLatin1_aae02 0 = .ok (.getstatic 38, 3) := by decide +kernel
theorem dJ0_isLatin1_aae02_3 : decode cJ0_isLatin1_aae02 3 = .ok (.ifCond .eq 14, 3) := by decide +kernel
theorem dJ0_isLatin1_aae02_6 : decode cJ0_isLatin1_aae02 6 = .ok (.aload_n 0, 1) := by decide +kernel
theorem dJ0_isLatin1_aae02_7 : decode cJ0_isLatin1_aae02 7 = .ok (.getfield 15, 3) := by decide +kernel
theorem dJ0_isLatin1_aae02_10 : decode cJ0_isLatin1_aae02 10 = .ok (.ifCond .ne 7, 3) := by decide +kernel
theorem dJ0_isLatin1_aae02_13 : decode cJ0_isLatin1_aae02 13 = .ok (.iconst 1, 1) := by decide +kernel
theorem dJ0_isLatin1_aae02_14 : decode cJ0_isLatin1_aae02 14 = .ok (.goto 4, 3) := by decide +kernel
theorem dJ0_isLatin1_aae02_17 : decode cJ0_isLatin1_aae02 17 = .ok (.iconst 0, 1) := by decide +kernel
theorem dJ0_isLatin1_aae02_18 : decode cJ0_isLatin1_aae02 18 = .ok (.ireturn, 1) := by decide +kernel
theorem dJ0_checkIndex_df160_0 : decode cJ0_checkIndex_df160 0 = .ok (.iload_n 0, 1) := by decide +kernel
theorem dJ0_checkIndex_df160_1 : decode cJ0_checkIndex_df160 1 = .ok (.iload_n 1, 1) := by decide +kernel
theorem dJ0_checkIndex_df160_2 : decode cJ0_checkIndex_df160 2 = .ok (.getstatic 1053, 3) := by decide +kernel
theorem dJ0_checkIndex_df160_5 : decode cJ0_checkIndex_df160 5 = .ok (.invokestatic 1059, 3) := by decide +kernel
theorem dJ0_checkIndex_df160_8 : decode cJ0_checkIndex_df160 8 = .ok (.pop, 1) := by decide +kernel
theorem dJ0_checkIndex_df160_9 : decode cJ0_checkIndex_df160 9 = .ok (.return_, 1) := by decide +kernel
theorem dJ1_charAt_3b067_0 : decode cJ1_charAt_3b067 0 = .ok (.iload_n 1, 1) := by decide +kernel
theorem dJ1_charAt_3b067_1 : decode cJ1_charAt_3b067 1 = .ok (.aload_n 0, 1) := by decide +kernel
theorem dJ1_charAt_3b067_2 : decode cJ1_charAt_3b067 2 = .ok (.arraylength, 1) := by decide +kernel
theorem dJ1_charAt_3b067_3 : decode cJ1_charAt_3b067 3 = .ok (.invokestatic 9, 3) := by decide +kernel
theorem dJ1_charAt_3b067_6 : decode cJ1_charAt_3b067 6 = .ok (.aload_n 0, 1) := by decide +kernel
theorem dJ1_charAt_3b067_7 : decode cJ1_charAt_3b067 7 = .ok (.iload_n 1, 1) := by decide +kernel
theorem dJ1_charAt_3b067_8 : decode cJ1_charAt_3b067 8 = .ok (.baload, 1) := by decide +kernel
theorem dJ1_charAt_3b067_9 : decode cJ1_charAt_3b067 9 = .ok (.sipush 255, 3) := by decide +kernel
theorem dJ1_charAt_3b067_12 : decode cJ1_charAt_3b067 12 = .ok (.iand, 1) := by decide +kernel
theorem dJ1_charAt_3b067_13 : decode cJ1_charAt_3b067 13 = .ok (.i2c, 1) := by decide +kernel
theorem dJ1_charAt_3b067_14 : decode cJ1_charAt_3b067 14 = .ok (.ireturn, 1) := by decide +kernel
theorem dJ2_getChar_3b067_0 : decode cJ2_getChar_3b067 0 = .ok (.getstatic 44, 3) := by decide +kernel
theorem dJ2_getChar_3b067_3 : decode cJ2_getChar_3b067 3 = .ok (.ifCond .ne 25, 3) := by decide +kernel
theorem dJ2_getChar_3b067_6 : decode cJ2_getChar_3b067 6 = .ok (.iload_n 1, 1) := by decide +kernel
theorem dJ2_getChar_3b067_7 : decode cJ2_getChar_3b067 7 = .ok (.ifCond .lt 11, 3) := by decide +kernel
theorem dJ2_getChar_3b067_10 : decode cJ2_getChar_3b067 10 = .ok (.iload_n 1, 1) := by decide +kernel
theorem dJ2_getChar_3b067_11 : decode cJ2_getChar_3b067 11 = .ok (.aload_n 0, 1) := by decide +kernel
theorem dJ2_getChar_3b067_12 : decode cJ2_getChar_3b067 12 = .ok (.invokestatic 48, 3) := by decide +kernel
theorem dJ2_getChar_3b067_15 : decode cJ2_getChar_3b067 15 = .ok (.if_icmp .lt 13, 3) := by decide +kernel
theorem dJ2_getChar_3b067_18 : decode cJ2_getChar_3b067 18 = .ok (.new 52, 3) := by decide +kernel
theorem dJ2_getChar_3b067_21 : decode cJ2_getChar_3b067 21 = .ok (.dup, 1) := by decide +kernel
theorem dJ2_getChar_3b067_22 : decode cJ2_getChar_3b067 22 = .ok (.ldc 54, 2) := by decide +kernel
theorem dJ2_getChar_3b067_24 : decode cJ2_getChar_3b067 24 = .ok (.invokespecial 56, 3) := by decide +kernel
theorem dJ2_getChar_3b067_27 : decode cJ2_getChar_3b067 27 = .ok (.athrow, 1) := by decide +kernel
theorem dJ2_getChar_3b067_28 : decode cJ2_getChar_3b067 28 = .ok (.iload_n 1, 1) := by decide +kernel
theorem dJ2_getChar_3b067_29 : decode cJ2_getChar_3b067 29 = .ok (.iconst 1, 1) := by decide +kernel
theorem dJ2_getChar_3b067_30 : decode cJ2_getChar_3b067 30 = .ok (.ishl, 1) := by decide +kernel
theorem dJ2_getChar_3b067_31 : decode cJ2_getChar_3b067 31 = .ok (.istore_n 1, 1) := by decide +kernel
theorem dJ2_getChar_3b067_32 : decode cJ2_getChar_3b067 32 = .ok (.aload_n 0, 1) := by decide +kernel
theorem dJ2_getChar_3b067_33 : decode cJ2_getChar_3b067 33 = .ok (.iload_n 1, 1) := by decide +kernel
theorem dJ2_getChar_3b067_34 : decode cJ2_getChar_3b067 34 = .ok (.iinc 1 1, 3) := by decide +kernel
theorem dJ2_getChar_3b067_37 : decode cJ2_getChar_3b067 37 = .ok (.baload, 1) := by decide +kernel
theorem dJ2_getChar_3b067_38 : decode cJ2_getChar_3b067 38 = .ok (.sipush 255, 3) := by decide +kernel
theorem dJ2_getChar_3b067_41 : decode cJ2_getChar_3b067 41 = .ok (.iand, 1) := by decide +kernel
theorem dJ2_getChar_3b067_42 : decode cJ2_getChar_3b067 42 = .ok (.getstatic 59, 3) := by decide +kernel
theorem dJ2_getChar_3b067_45 : decode cJ2_getChar_3b067 45 = .ok (.ishl, 1) := by decide +kernel
theorem dJ2_getChar_3b067_46 : decode cJ2_getChar_3b067 46 = .ok (.aload_n 0, 1) := by decide +kernel
theorem dJ2_getChar_3b067_47 : decode cJ2_getChar_3b067 47 = .ok (.iload_n 1, 1) := by decide +kernel
theorem dJ2_getChar_3b067_48 : decode cJ2_getChar_3b067 48 = .ok (.baload, 1) := by decide +kernel
theorem dJ2_getChar_3b067_49 : decode cJ2_getChar_3b067 49 = .ok (.sipush 255, 3) := by decide +kernel
theorem dJ2_getChar_3b067_52 : decode cJ2_getChar_3b067 52 = .ok (.iand, 1) := by decide +kernel
theorem dJ2_getChar_3b067_53 : decode cJ2_getChar_3b067 53 = .ok (.getstatic 63, 3) := by decide +kernel
theorem dJ2_getChar_3b067_56 : decode cJ2_getChar_3b067 56 = .ok (.ishl, 1) := by decide +kernel
theorem dJ2_getChar_3b067_57 : decode cJ2_getChar_3b067 57 = .ok (.ior, 1) := by decide +kernel
theorem dJ2_getChar_3b067_58 : decode cJ2_getChar_3b067 58 = .ok (.i2c, 1) := by decide +kernel
theorem dJ2_getChar_3b067_59 : decode cJ2_getChar_3b067 59 = .ok (.ireturn, 1) := by decide +kernel
theorem dJ2_length_9d52b_0 : decode cJ2_length_9d52b 0 = .ok (.aload_n 0, 1) := by decide +kernel
theorem dJ2_length_9d52b_1 : decode cJ2_length_9d52b 1 = .ok (.arraylength, 1) := by decide +kernel
theorem dJ2_length_9d52b_2 : decode cJ2_length_9d52b 2 = .ok (.iconst 1, 1) := by decide +kernel
theorem dJ2_length_9d52b_3 : decode cJ2_length_9d52b 3 = .ok (.ishr, 1) := by decide +kernel
theorem dJ2_length_9d52b_4 : decode cJ2_length_9d52b 4 = .ok (.ireturn, 1) := by decide +kernel
theorem dJ2_charAt_3b067_0 : decode cJ2_charAt_3b067 0 = .ok (.iload_n 1, 1) := by decide +kernel
theorem dJ2_charAt_3b067_1 : decode cJ2_charAt_3b067 1 = .ok (.aload_n 0, 1) := by decide +kernel
theorem dJ2_charAt_3b067_2 : decode cJ2_charAt_3b067 2 = .ok (.invokestatic 67, 3) := by decide +kernel
theorem dJ2_charAt_3b067_5 : decode cJ2_charAt_3b067 5 = .ok (.aload_n 0, 1) := by decide +kernel
theorem dJ2_charAt_3b067_6 : decode cJ2_charAt_3b067 6 = .ok (.iload_n 1, 1) := by decide +kernel
theorem dJ2_charAt_3b067_7 : decode cJ2_charAt_3b067 7 = .ok (.invokestatic 71, 3) := by decide +kernel
theorem dJ2_charAt_3b067_10 : decode cJ2_charAt_3b067 10 = .ok (.ireturn, 1) := by decide +kernel
theorem dJ2_checkIndex_2214a_0 : decode cJ2_checkIndex_2214a 0 = .ok (.iload_n 0, 1) := by decide +kernel
theorem dJ2_checkIndex_2214a_1 : decode cJ2_checkIndex_2214a 1 = .ok (.aload_n 1, 1) := by decide +kernel
theorem dJ2_checkIndex_2214a_2 : decode cJ2_checkIndex_2214a 2 = .ok (.invokestatic 48, 3) := by decide +kernel
theorem dJ2_checkIndex_2214a_5 : decode cJ2_checkIndex_2214a 5 = .ok (.invokestatic 414, 3) := by decide +kernel
theorem dJ2_checkIndex_2214a_8 : decode cJ2_checkIndex_2214a 8 = .ok (.return_, 1) := by decide +kernel
theorem dJ3_checkIndex_8e157_0 : decode cJ3_checkIndex_8e157 0 = .ok (.iload_n 0, 1) := by decide +kernel
theorem dJ3_checkIndex_8e157_1 : decode cJ3_checkIndex_8e157 1 = .ok (.ifCond .lt 8, 3) := by decide +kernel
theorem dJ3_checkIndex_8e157_4 : decode cJ3_checkIndex_8e157 4 = .ok (.iload_n 0, 1) := by decide +kernel
theorem dJ3_checkIndex_8e157_5 : decode cJ3_checkIndex_8e157 5 = .ok (.iload_n 1, 1) := by decide +kernel
theorem dJ3_checkIndex_8e157_6 : decode cJ3_checkIndex_8e157 6 = .ok (.if_icmp .lt 10, 3) := by decide +kernel
theorem dJ3_checkIndex_8e157_9 : decode cJ3_checkIndex_8e157 9 = .ok (.aload_n 2, 1) := by decide +kernel
theorem dJ3_checkIndex_8e157_10 : decode cJ3_checkIndex_8e157 10 = .ok (.iload_n 0, 1) := by decide +kernel
theorem dJ3_checkIndex_8e157_11 : decode cJ3_checkIndex_8e157 11 = .ok (.iload_n 1, 1) := by decide +kernel
theorem dJ3_checkIndex_8e157_12 : decode cJ3_checkIndex_8e157 12 = .ok (.invokestatic 95, 3) := by decide +kernel
theorem dJ3_checkIndex_8e157_15 : decode cJ3_checkIndex_8e157 15 = .ok (.athrow, 1) := by decide +kernel
theorem dJ3_checkIndex_8e157_16 : decode cJ3_checkIndex_8e157 16 = .ok (.iload_n 0, 1) := by decide +kernel
theorem dJ3_checkIndex_8e157_17 : decode cJ3_checkIndex_8e157 17 = .ok (.ireturn, 1) := by decide +kernel
theorem dL_led_0 : decode cL_led 0 = .ok (.aload_n 2, 1) := by decide +kernel
theorem dL_led_1 : decode cL_led 1 = .ok (.iconst 0, 1) := by decide +kernel
theorem dL_led_2 : decode cL_led 2 = .ok (.aload_n 0, 1) := by decide +kernel
theorem dL_led_3 : decode cL_led 3 = .ok (.iload_n 1, 1) := by decide +kernel
theorem dL_led_4 : decode cL_led 4 = .ok (.invokevirtual 7, 3) := by decide +kernel
theorem dL_led_7 : decode cL_led 7 = .ok (.i2l, 1) := by decide +kernel
theorem dL_led_8 : decode cL_led 8 = .ok (.lastore, 1) := by decide +kernel
theorem dL_led_9 : decode cL_led 9 = .ok (.goto 6, 3) := by decide +kernel
theorem dL_led_12 : decode cL_led 12 = .ok (.astore_n 3, 1) := by decide +kernel
theorem dL_led_13 : decode cL_led 13 = .ok (.iconst 1, 1) := by decide +kernel
theorem dL_led_14 : decode cL_led 14 = .ok (.ireturn, 1) := by decide +kernel
theorem dL_led_15 : decode cL_led 15 = .ok (.iconst 0, 1) := by decide +kernel
theorem dL_led_16 : decode cL_led 16 = .ok (.ireturn, 1) := by decide +kernel
theorem dL_law_0 : decode cL_law 0 = .ok (.new 8, 3) := by decide +kernel
theorem dL_law_3 : decode cL_law 3 = .ok (.dup, 1) := by decide +kernel
theorem dL_law_4 : decode cL_law 4 = .ok (.invokespecial 15, 3) := by decide +kernel
theorem dL_law_7 : decode cL_law 7 = .ok (.astore_n 1, 1) := by decide +kernel
theorem dL_law_8 : decode cL_law 8 = .ok (.new 16, 3) := by decide +kernel
theorem dL_law_11 : decode cL_law 11 = .ok (.dup, 1) := by decide +kernel
theorem dL_law_12 : decode cL_law 12 = .ok (.invokespecial 18, 3) := by decide +kernel
theorem dL_law_15 : decode cL_law 15 = .ok (.astore_n 2, 1) := by decide +kernel
theorem dL_law_16 : decode cL_law 16 = .ok (.iconst 1, 1) := by decide +kernel
theorem dL_law_17 : decode cL_law 17 = .ok (.newarray .long, 2) := by decide +kernel
theorem dL_law_19 : decode cL_law 19 = .ok (.astore_n 3, 1) := by decide +kernel
theorem dL_law_20 : decode cL_law 20 = .ok (.iconst 0, 1) := by decide +kernel
theorem dL_law_21 : decode cL_law 21 = .ok (.istore 4, 2) := by decide +kernel
theorem dL_law_23 : decode cL_law 23 = .ok (.iload 4, 2) := by decide +kernel
theorem dL_law_25 : decode cL_law 25 = .ok (.aload_n 0, 1) := by decide +kernel
theorem dL_law_26 : decode cL_law 26 = .ok (.arraylength, 1) := by decide +kernel
theorem dL_law_27 : decode cL_law 27 = .ok (.bipush 6, 2) := by decide +kernel
theorem dL_law_29 : decode cL_law 29 = .ok (.isub, 1) := by decide +kernel
theorem dL_law_30 : decode cL_law 30 = .ok (.if_icmp .gt 1858, 3) := by decide +kernel
theorem dL_law_33 : decode cL_law 33 = .ok (.aload_n 0, 1) := by decide +kernel
theorem dL_law_34 : decode cL_law 34 = .ok (.iload 4, 2) := by decide +kernel
theorem dL_law_36 : decode cL_law 36 = .ok (.iaload, 1) := by decide +kernel
theorem dL_law_37 : decode cL_law 37 = .ok (.bipush 63, 2) := by decide +kernel
theorem dL_law_39 : decode cL_law 39 = .ok (.iand, 1) := by decide +kernel
theorem dL_law_40 : decode cL_law 40 = .ok (.tableswitch 1842 0 55 #[240, 313, 338, 351, 364, 401, 438, 475, 488, 501, 514, 551, 588, 625, 650, 663, 688, 701, 726, 763, 788, 801, 814, 839, 852, 877, 902, 927, 964, 989, 1002, 1039, 1064, 1077, 1114, 1139, 1164, 1177, 1190, 1203, 1312, 1337, 1362, 1428, 1494, 1548, 1585, 1610, 1623, 1660, 1697, 1710, 1723, 1748, 1804, 1829], 240) := by decide +kernel
theorem dL_law_280 : decode cL_law 280 = .ok (.aload_n 1, 1) := by decide +kernel
theorem dL_law_281 : decode cL_law 281 = .ok (.aload_n 0, 1) := by decide +kernel
theorem dL_law_282 : decode cL_law 282 = .ok (.iload 4, 2) := by decide +kernel
theorem dL_law_284 : decode cL_law 284 = .ok (.iconst 1, 1) := by decide +kernel
theorem dL_law_285 : decode cL_law 285 = .ok (.iadd, 1) := by decide +kernel
theorem dL_law_286 : decode cL_law 286 = .ok (.iaload, 1) := by decide +kernel
theorem dL_law_287 : decode cL_law 287 = .ok (.aload_n 0, 1) := by decide +kernel
theorem dL_law_288 : decode cL_law 288 = .ok (.iload 4, 2) := by decide +kernel
theorem dL_law_290 : decode cL_law 290 = .ok (.iconst 2, 1) := by decide +kernel
theorem dL_law_291 : decode cL_law 291 = .ok (.iadd, 1) := by decide +kernel
theorem dL_law_292 : decode cL_law 292 = .ok (.iaload, 1) := by decide +kernel
theorem dL_law_293 : decode cL_law 293 = .ok (.aload_n 0, 1) := by decide +kernel
theorem dL_law_294 : decode cL_law 294 = .ok (.iload 4, 2) := by decide +kernel
theorem dL_law_296 : decode cL_law 296 = .ok (.iconst 3, 1) := by decide +kernel
theorem dL_law_297 : decode cL_law 297 = .ok (.iadd, 1) := by decide +kernel
theorem dL_law_298 : decode cL_law 298 = .ok (.iaload, 1) := by decide +kernel
theorem dL_law_299 : decode cL_law 299 = .ok (.aload_n 0, 1) := by decide +kernel
theorem dL_law_300 : decode cL_law 300 = .ok (.iload 4, 2) := by decide +kernel
theorem dL_law_302 : decode cL_law 302 = .ok (.iconst 4, 1) := by decide +kernel
theorem dL_law_303 : decode cL_law 303 = .ok (.iadd, 1) := by decide +kernel
theorem dL_law_304 : decode cL_law 304 = .ok (.iaload, 1) := by decide +kernel
theorem dL_law_305 : decode cL_law 305 = .ok (.aload_n 0, 1) := by decide +kernel
theorem dL_law_306 : decode cL_law 306 = .ok (.iload 4, 2) := by decide +kernel
theorem dL_law_308 : decode cL_law 308 = .ok (.iconst 5, 1) := by decide +kernel
theorem dL_law_309 : decode cL_law 309 = .ok (.iadd, 1) := by decide +kernel
theorem dL_law_310 : decode cL_law 310 = .ok (.iaload, 1) := by decide +kernel
theorem dL_law_311 : decode cL_law 311 = .ok (.invokevirtual 19, 3) := by decide +kernel
theorem dL_law_314 : decode cL_law 314 = .ok (.aload_n 2, 1) := by decide +kernel
theorem dL_law_315 : decode cL_law 315 = .ok (.aload_n 0, 1) := by decide +kernel
theorem dL_law_316 : decode cL_law 316 = .ok (.iload 4, 2) := by decide +kernel
theorem dL_law_318 : decode cL_law 318 = .ok (.iconst 1, 1) := by decide +kernel
theorem dL_law_319 : decode cL_law 319 = .ok (.iadd, 1) := by decide +kernel
theorem dL_law_320 : decode cL_law 320 = .ok (.iaload, 1) := by decide +kernel
theorem dL_law_321 : decode cL_law 321 = .ok (.aload_n 0, 1) := by decide +kernel
theorem dL_law_322 : decode cL_law 322 = .ok (.iload 4, 2) := by decide +kernel
theorem dL_law_324 : decode cL_law 324 = .ok (.iconst 2, 1) := by decide +kernel
theorem dL_law_325 : decode cL_law 325 = .ok (.iadd, 1) := by decide +kernel
theorem dL_law_326 : decode cL_law 326 = .ok (.iaload, 1) := by decide +kernel
theorem dL_law_327 : decode cL_law 327 = .ok (.aload_n 0, 1) := by decide +kernel
theorem dL_law_328 : decode cL_law 328 = .ok (.iload 4, 2) := by decide +kernel
theorem dL_law_330 : decode cL_law 330 = .ok (.iconst 3, 1) := by decide +kernel
theorem dL_law_331 : decode cL_law 331 = .ok (.iadd, 1) := by decide +kernel
theorem dL_law_332 : decode cL_law 332 = .ok (.iaload, 1) := by decide +kernel
theorem dL_law_333 : decode cL_law 333 = .ok (.aload_n 0, 1) := by decide +kernel
theorem dL_law_334 : decode cL_law 334 = .ok (.iload 4, 2) := by decide +kernel
theorem dL_law_336 : decode cL_law 336 = .ok (.iconst 4, 1) := by decide +kernel
theorem dL_law_337 : decode cL_law 337 = .ok (.iadd, 1) := by decide +kernel
theorem dL_law_338 : decode cL_law 338 = .ok (.iaload, 1) := by decide +kernel
theorem dL_law_339 : decode cL_law 339 = .ok (.aload_n 0, 1) := by decide +kernel
theorem dL_law_340 : decode cL_law 340 = .ok (.iload 4, 2) := by decide +kernel
theorem dL_law_342 : decode cL_law 342 = .ok (.iconst 5, 1) := by decide +kernel
theorem dL_law_343 : decode cL_law 343 = .ok (.iadd, 1) := by decide +kernel
theorem dL_law_344 : decode cL_law 344 = .ok (.iaload, 1) := by decide +kernel
theorem dL_law_345 : decode cL_law 345 = .ok (.invokevirtual 23, 3) := by decide +kernel
theorem dL_law_348 : decode cL_law 348 = .ok (.if_icmp .eq 1534, 3) := by decide +kernel
theorem dL_law_351 : decode cL_law 351 = .ok (.iconst 0, 1) := by decide +kernel
theorem dL_law_352 : decode cL_law 352 = .ok (.ireturn, 1) := by decide +kernel
theorem dL_law_353 : decode cL_law 353 = .ok (.aload_n 1, 1) := by decide +kernel
theorem dL_law_354 : decode cL_law 354 = .ok (.aload_n 0, 1) := by decide +kernel
theorem dL_law_355 : decode cL_law 355 = .ok (.iload 4, 2) := by decide +kernel
theorem dL_law_357 : decode cL_law 357 = .ok (.iconst 1, 1) := by decide +kernel
theorem dL_law_358 : decode cL_law 358 = .ok (.iadd, 1) := by decide +kernel
theorem dL_law_359 : decode cL_law 359 = .ok (.iaload, 1) := by decide +kernel
theorem dL_law_360 : decode cL_law 360 = .ok (.invokevirtual 24, 3) := by decide +kernel
theorem dL_law_363 : decode cL_law 363 = .ok (.aload_n 2, 1) := by decide +kernel
theorem dL_law_364 : decode cL_law 364 = .ok (.aload_n 0, 1) := by decide +kernel
theorem dL_law_365 : decode cL_law 365 = .ok (.iload 4, 2) := by decide +kernel
theorem dL_law_367 : decode cL_law 367 = .ok (.iconst 1, 1) := by decide +kernel
theorem dL_law_368 : decode cL_law 368 = .ok (.iadd, 1) := by decide +kernel
theorem dL_law_369 : decode cL_law 369 = .ok (.iaload, 1) := by decide +kernel
theorem dL_law_370 : decode cL_law 370 = .ok (.invokevirtual 27, 3) := by decide +kernel
theorem dL_law_373 : decode cL_law 373 = .ok (.if_icmp .eq 1509, 3) := by decide +kernel
theorem dL_law_376 : decode cL_law 376 = .ok (.iconst 0, 1) := by decide +kernel
theorem dL_law_377 : decode cL_law 377 = .ok (.ireturn, 1) := by decide +kernel
theorem dL_law_378 : decode cL_law 378 = .ok (.aload_n 1, 1) := by decide +kernel
theorem dL_law_379 : decode cL_law 379 = .ok (.invokevirtual 28, 3) := by decide +kernel
theorem dL_law_382 : decode cL_law 382 = .ok (.aload_n 2, 1) := by decide +kernel
theorem dL_law_383 : decode cL_law 383 = .ok (.invokevirtual 32, 3) := by decide +kernel
theorem dL_law_386 : decode cL_law 386 = .ok (.if_icmp .eq 1496, 3) := by decide +kernel
theorem dL_law_389 : decode cL_law 389 = .ok (.iconst 0, 1) := by decide +kernel
theorem dL_law_390 : decode cL_law 390 = .ok (.ireturn, 1) := by decide +kernel
theorem dL_law_391 : decode cL_law 391 = .ok (.aload_n 1, 1) := by decide +kernel
theorem dL_law_392 : decode cL_law 392 = .ok (.invokevirtual 33, 3) := by decide +kernel
theorem dL_law_395 : decode cL_law 395 = .ok (.aload_n 2, 1) := by decide +kernel
theorem dL_law_396 : decode cL_law 396 = .ok (.invokevirtual 36, 3) := by decide +kernel
theorem dL_law_399 : decode cL_law 399 = .ok (.if_icmp .eq 1483, 3) := by decide +kernel
theorem dL_law_402 : decode cL_law 402 = .ok (.iconst 0, 1) := by decide +kernel
theorem dL_law_403 : decode cL_law 403 = .ok (.ireturn, 1) := by decide +kernel
theorem dL_law_404 : decode cL_law 404 = .ok (.aload_n 1, 1) := by decide +kernel
theorem dL_law_405 : decode cL_law 405 = .ok (.aload_n 0, 1) := by decide +kernel
theorem dL_law_406 : decode cL_law 406 = .ok (.iload 4, 2) := by decide +kernel
theorem dL_law_408 : decode cL_law 408 = .ok (.iconst 1, 1) := by decide +kernel
theorem dL_law_409 : decode cL_law 409 = .ok (.iadd, 1) := by decide +kernel
theorem dL_law_410 : decode cL_law 410 = .ok (.iaload, 1) := by decide +kernel
theorem dL_law_411 : decode cL_law 411 = .ok (.aload_n 0, 1) := by decide +kernel
theorem dL_law_412 : decode cL_law 412 = .ok (.iload 4, 2) := by decide +kernel
theorem dL_law_414 : decode cL_law 414 = .ok (.iconst 2, 1) := by decide +kernel
theorem dL_law_415 : decode cL_law 415 = .ok (.iadd, 1) := by decide +kernel
theorem dL_law_416 : decode cL_law 416 = .ok (.iaload, 1) := by decide +kernel
theorem dL_law_417 : decode cL_law 417 = .ok (.invokevirtual 37, 3) := by decide +kernel
theorem dL_law_420 : decode cL_law 420 = .ok (.aload_n 2, 1) := by decide +kernel
theorem dL_law_421 : decode cL_law 421 = .ok (.aload_n 0, 1) := by decide +kernel
theorem dL_law_422 : decode cL_law 422 = .ok (.iload 4, 2) := by decide +kernel
theorem dL_law_424 : decode cL_law 424 = .ok (.iconst 1, 1) := by decide +kernel
theorem dL_law_425 : decode cL_law 425 = .ok (.iadd, 1) := by decide +kernel
theorem dL_law_426 : decode cL_law 426 = .ok (.iaload, 1) := by decide +kernel
theorem dL_law_427 : decode cL_law 427 = .ok (.aload_n 0, 1) := by decide +kernel
theorem dL_law_428 : decode cL_law 428 = .ok (.iload 4, 2) := by decide +kernel
theorem dL_law_430 : decode cL_law 430 = .ok (.iconst 2, 1) := by decide +kernel
theorem dL_law_431 : decode cL_law 431 = .ok (.iadd, 1) := by decide +kernel
theorem dL_law_432 : decode cL_law 432 = .ok (.iaload, 1) := by decide +kernel
theorem dL_law_433 : decode cL_law 433 = .ok (.invokevirtual 41, 3) := by decide +kernel
theorem dL_law_436 : decode cL_law 436 = .ok (.if_icmp .eq 1446, 3) := by decide +kernel
theorem dL_law_439 : decode cL_law 439 = .ok (.iconst 0, 1) := by decide +kernel
theorem dL_law_440 : decode cL_law 440 = .ok (.ireturn, 1) := by decide +kernel
theorem dL_law_441 : decode cL_law 441 = .ok (.aload_n 1, 1) := by decide +kernel
theorem dL_law_442 : decode cL_law 442 = .ok (.aload_n 0, 1) := by decide +kernel
theorem dL_law_443 : decode cL_law 443 = .ok (.iload 4, 2) := by decide +kernel
theorem dL_law_445 : decode cL_law 445 = .ok (.iconst 1, 1) := by decide +kernel
theorem dL_law_446 : decode cL_law 446 = .ok (.iadd, 1) := by decide +kernel
theorem dL_law_447 : decode cL_law 447 = .ok (.iaload, 1) := by decide +kernel
theorem dL_law_448 : decode cL_law 448 = .ok (.aload_n 0, 1) := by decide +kernel
theorem dL_law_449 : decode cL_law 449 = .ok (.iload 4, 2) := by decide +kernel
theorem dL_law_451 : decode cL_law 451 = .ok (.iconst 2, 1) := by decide +kernel
theorem dL_law_452 : decode cL_law 452 = .ok (.iadd, 1) := by decide +kernel
theorem dL_law_453 : decode cL_law 453 = .ok (.iaload, 1) := by decide +kernel
theorem dL_law_454 : decode cL_law 454 = .ok (.invokevirtual 42, 3) := by decide +kernel
theorem dL_law_457 : decode cL_law 457 = .ok (.aload_n 2, 1) := by decide +kernel
theorem dL_law_458 : decode cL_law 458 = .ok (.aload_n 0, 1) := by decide +kernel
theorem dL_law_459 : decode cL_law 459 = .ok (.iload 4, 2) := by decide +kernel
theorem dL_law_461 : decode cL_law 461 = .ok (.iconst 1, 1) := by decide +kernel
theorem dL_law_462 : decode cL_law 462 = .ok (.iadd, 1) := by decide +kernel
theorem dL_law_463 : decode cL_law 463 = .ok (.iaload, 1) := by decide +kernel
theorem dL_law_464 : decode cL_law 464 = .ok (.aload_n 0, 1) := by decide +kernel
theorem dL_law_465 : decode cL_law 465 = .ok (.iload 4, 2) := by decide +kernel
theorem dL_law_467 : decode cL_law 467 = .ok (.iconst 2, 1) := by decide +kernel
theorem dL_law_468 : decode cL_law 468 = .ok (.iadd, 1) := by decide +kernel
theorem dL_law_469 : decode cL_law 469 = .ok (.iaload, 1) := by decide +kernel
theorem dL_law_470 : decode cL_law 470 = .ok (.invokevirtual 45, 3) := by decide +kernel
theorem dL_law_473 : decode cL_law 473 = .ok (.if_icmp .eq 1409, 3) := by decide +kernel
theorem dL_law_476 : decode cL_law 476 = .ok (.iconst 0, 1) := by decide +kernel
theorem dL_law_477 : decode cL_law 477 = .ok (.ireturn, 1) := by decide +kernel
theorem dL_law_478 : decode cL_law 478 = .ok (.aload_n 1, 1) := by decide +kernel
theorem dL_law_479 : decode cL_law 479 = .ok (.aload_n 0, 1) := by decide +kernel
theorem dL_law_480 : decode cL_law 480 = .ok (.iload 4, 2) := by decide +kernel
theorem dL_law_482 : decode cL_law 482 = .ok (.iconst 1, 1) := by decide +kernel
theorem dL_law_483 : decode cL_law 483 = .ok (.iadd, 1) := by decide +kernel
theorem dL_law_484 : decode cL_law 484 = .ok (.iaload, 1) := by decide +kernel
theorem dL_law_485 : decode cL_law 485 = .ok (.aload_n 0, 1) := by decide +kernel
theorem dL_law_486 : decode cL_law 486 = .ok (.iload 4, 2) := by decide +kernel
theorem dL_law_488 : decode cL_law 488 = .ok (.iconst 2, 1) := by decide +kernel
theorem dL_law_489 : decode cL_law 489 = .ok (.iadd, 1) := by decide +kernel
theorem dL_law_490 : decode cL_law 490 = .ok (.iaload, 1) := by decide +kernel
theorem dL_law_491 : decode cL_law 491 = .ok (.invokevirtual 46, 3) := by decide +kernel
theorem dL_law_494 : decode cL_law 494 = .ok (.aload_n 2, 1) := by decide +kernel
theorem dL_law_495 : decode cL_law 495 = .ok (.aload_n 0, 1) := by decide +kernel
theorem dL_law_496 : decode cL_law 496 = .ok (.iload 4, 2) := by decide +kernel
theorem dL_law_498 : decode cL_law 498 = .ok (.iconst 1, 1) := by decide +kernel
theorem dL_law_499 : decode cL_law 499 = .ok (.iadd, 1) := by decide +kernel
theorem dL_law_500 : decode cL_law 500 = .ok (.iaload, 1) := by decide +kernel
theorem dL_law_501 : decode cL_law 501 = .ok (.aload_n 0, 1) := by decide +kernel
theorem dL_law_502 : decode cL_law 502 = .ok (.iload 4, 2) := by decide +kernel
theorem dL_law_504 : decode cL_law 504 = .ok (.iconst 2, 1) := by decide +kernel
theorem dL_law_505 : decode cL_law 505 = .ok (.iadd, 1) := by decide +kernel
theorem dL_law_506 : decode cL_law 506 = .ok (.iaload, 1) := by decide +kernel
theorem dL_law_507 : decode cL_law 507 = .ok (.invokevirtual 49, 3) := by decide +kernel
theorem dL_law_510 : decode cL_law 510 = .ok (.if_icmp .eq 1372, 3) := by decide +kernel
theorem dL_law_513 : decode cL_law 513 = .ok (.iconst 0, 1) := by decide +kernel
theorem dL_law_514 : decode cL_law 514 = .ok (.ireturn, 1) := by decide +kernel
theorem dL_law_515 : decode cL_law 515 = .ok (.aload_n 1, 1) := by decide +kernel
theorem dL_law_516 : decode cL_law 516 = .ok (.invokevirtual 50, 3) := by decide +kernel
theorem dL_law_519 : decode cL_law 519 = .ok (.aload_n 2, 1) := by decide +kernel
theorem dL_law_520 : decode cL_law 520 = .ok (.invokevirtual 53, 3) := by decide +kernel
theorem dL_law_523 : decode cL_law 523 = .ok (.if_icmp .eq 1359, 3) := by decide +kernel
theorem dL_law_526 : decode cL_law 526 = .ok (.iconst 0, 1) := by decide +kernel
theorem dL_law_527 : decode cL_law 527 = .ok (.ireturn, 1) := by decide +kernel
theorem dL_law_528 : decode cL_law 528 = .ok (.aload_n 1, 1) := by decide +kernel
theorem dL_law_529 : decode cL_law 529 = .ok (.invokevirtual 54, 3) := by decide +kernel
theorem dL_law_532 : decode cL_law 532 = .ok (.aload_n 2, 1) := by decide +kernel
theorem dL_law_533 : decode cL_law 533 = .ok (.invokevirtual 57, 3) := by decide +kernel
theorem dL_law_536 : decode cL_law 536 = .ok (.if_icmp .eq 1346, 3) := by decide +kernel
theorem dL_law_539 : decode cL_law 539 = .ok (.iconst 0, 1) := by decide +kernel
theorem dL_law_540 : decode cL_law 540 = .ok (.ireturn, 1) := by decide +kernel
theorem dL_law_541 : decode cL_law 541 = .ok (.aload_n 1, 1) := by decide +kernel
theorem dL_law_542 : decode cL_law 542 = .ok (.invokevirtual 58, 3) := by decide +kernel
theorem dL_law_545 : decode cL_law 545 = .ok (.aload_n 2, 1) := by decide +kernel
theorem dL_law_546 : decode cL_law 546 = .ok (.invokevirtual 61, 3) := by decide +kernel
theorem dL_law_549 : decode cL_law 549 = .ok (.if_icmp .eq 1333, 3) := by decide +kernel
theorem dL_law_552 : decode cL_law 552 = .ok (.iconst 0, 1) := by decide +kernel
theorem dL_law_553 : decode cL_law 553 = .ok (.ireturn, 1) := by decide +kernel
theorem dL_law_554 : decode cL_law 554 = .ok (.aload_n 1, 1) := by decide +kernel
theorem dL_law_555 : decode cL_law 555 = .ok (.aload_n 0, 1) := by decide +kernel
theorem dL_law_556 : decode cL_law 556 = .ok (.iload 4, 2) := by decide +kernel
theorem dL_law_558 : decode cL_law 558 = .ok (.iconst 1, 1) := by decide +kernel
theorem dL_law_559 : decode cL_law 559 = .ok (.iadd, 1) := by decide +kernel
theorem dL_law_560 : decode cL_law 560 = .ok (.iaload, 1) := by decide +kernel
theorem dL_law_561 : decode cL_law 561 = .ok (.aload_n 0, 1) := by decide +kernel
theorem dL_law_562 : decode cL_law 562 = .ok (.iload 4, 2) := by decide +kernel
theorem dL_law_564 : decode cL_law 564 = .ok (.iconst 2, 1) := by decide +kernel
theorem dL_law_565 : decode cL_law 565 = .ok (.iadd, 1) := by decide +kernel
theorem dL_law_566 : decode cL_law 566 = .ok (.iaload, 1) := by decide +kernel
theorem dL_law_567 : decode cL_law 567 = .ok (.invokevirtual 62, 3) := by decide +kernel
theorem dL_law_570 : decode cL_law 570 = .ok (.aload_n 2, 1) := by decide +kernel
theorem dL_law_571 : decode cL_law 571 = .ok (.aload_n 0, 1) := by decide +kernel
theorem dL_law_572 : decode cL_law 572 = .ok (.iload 4, 2) := by decide +kernel
theorem dL_law_574 : decode cL_law 574 = .ok (.iconst 1, 1) := by decide +kernel
theorem dL_law_575 : decode cL_law 575 = .ok (.iadd, 1) := by decide +kernel
theorem dL_law_576 : decode cL_law 576 = .ok (.iaload, 1) := by decide +kernel
theorem dL_law_577 : decode cL_law 577 = .ok (.aload_n 0, 1) := by decide +kernel
theorem dL_law_578 : decode cL_law 578 = .ok (.iload 4, 2) := by decide +kernel
theorem dL_law_580 : decode cL_law 580 = .ok (.iconst 2, 1) := by decide +kernel
theorem dL_law_581 : decode cL_law 581 = .ok (.iadd, 1) := by decide +kernel
theorem dL_law_582 : decode cL_law 582 = .ok (.iaload, 1) := by decide +kernel
theorem dL_law_583 : decode cL_law 583 = .ok (.invokevirtual 65, 3) := by decide +kernel
theorem dL_law_586 : decode cL_law 586 = .ok (.if_icmp .eq 1296, 3) := by decide +kernel
theorem dL_law_589 : decode cL_law 589 = .ok (.iconst 0, 1) := by decide +kernel
theorem dL_law_590 : decode cL_law 590 = .ok (.ireturn, 1) := by decide +kernel
theorem dL_law_591 : decode cL_law 591 = .ok (.aload_n 1, 1) := by decide +kernel
theorem dL_law_592 : decode cL_law 592 = .ok (.aload_n 0, 1) := by decide +kernel
theorem dL_law_593 : decode cL_law 593 = .ok (.iload 4, 2) := by decide +kernel
theorem dL_law_595 : decode cL_law 595 = .ok (.iconst 1, 1) := by decide +kernel
theorem dL_law_596 : decode cL_law 596 = .ok (.iadd, 1) := by decide +kernel
theorem dL_law_597 : decode cL_law 597 = .ok (.iaload, 1) := by decide +kernel
theorem dL_law_598 : decode cL_law 598 = .ok (.aload_n 0, 1) := by decide +kernel
theorem dL_law_599 : decode cL_law 599 = .ok (.iload 4, 2) := by decide +kernel
theorem dL_law_601 : decode cL_law 601 = .ok (.iconst 2, 1) := by decide +kernel
theorem dL_law_602 : decode cL_law 602 = .ok (.iadd, 1) := by decide +kernel
theorem dL_law_603 : decode cL_law 603 = .ok (.iaload, 1) := by decide +kernel
theorem dL_law_604 : decode cL_law 604 = .ok (.invokevirtual 66, 3) := by decide +kernel
theorem dL_law_607 : decode cL_law 607 = .ok (.aload_n 2, 1) := by decide +kernel
theorem dL_law_608 : decode cL_law 608 = .ok (.aload_n 0, 1) := by decide +kernel
theorem dL_law_609 : decode cL_law 609 = .ok (.iload 4, 2) := by decide +kernel
theorem dL_law_611 : decode cL_law 611 = .ok (.iconst 1, 1) := by decide +kernel
theorem dL_law_612 : decode cL_law 612 = .ok (.iadd, 1) := by decide +kernel
theorem dL_law_613 : decode cL_law 613 = .ok (.iaload, 1) := by decide +kernel
theorem dL_law_614 : decode cL_law 614 = .ok (.aload_n 0, 1) := by decide +kernel
theorem dL_law_615 : decode cL_law 615 = .ok (.iload 4, 2) := by decide +kernel
theorem dL_law_617 : decode cL_law 617 = .ok (.iconst 2, 1) := by decide +kernel
theorem dL_law_618 : decode cL_law 618 = .ok (.iadd, 1) := by decide +kernel
theorem dL_law_619 : decode cL_law 619 = .ok (.iaload, 1) := by decide +kernel
theorem dL_law_620 : decode cL_law 620 = .ok (.invokevirtual 69, 3) := by decide +kernel
theorem dL_law_623 : decode cL_law 623 = .ok (.if_icmp .eq 1259, 3) := by decide +kernel
theorem dL_law_626 : decode cL_law 626 = .ok (.iconst 0, 1) := by decide +kernel
theorem dL_law_627 : decode cL_law 627 = .ok (.ireturn, 1) := by decide +kernel
theorem dL_law_628 : decode cL_law 628 = .ok (.aload_n 1, 1) := by decide +kernel
theorem dL_law_629 : decode cL_law 629 = .ok (.aload_n 0, 1) := by decide +kernel
theorem dL_law_630 : decode cL_law 630 = .ok (.iload 4, 2) := by decide +kernel
theorem dL_law_632 : decode cL_law 632 = .ok (.iconst 1, 1) := by decide +kernel
theorem dL_law_633 : decode cL_law 633 = .ok (.iadd, 1) := by decide +kernel
theorem dL_law_634 : decode cL_law 634 = .ok (.iaload, 1) := by decide +kernel
theorem dL_law_635 : decode cL_law 635 = .ok (.aload_n 0, 1) := by decide +kernel
theorem dL_law_636 : decode cL_law 636 = .ok (.iload 4, 2) := by decide +kernel
theorem dL_law_638 : decode cL_law 638 = .ok (.iconst 2, 1) := by decide +kernel
theorem dL_law_639 : decode cL_law 639 = .ok (.iadd, 1) := by decide +kernel
theorem dL_law_640 : decode cL_law 640 = .ok (.iaload, 1) := by decide +kernel
theorem dL_law_641 : decode cL_law 641 = .ok (.invokevirtual 70, 3) := by decide +kernel
theorem dL_law_644 : decode cL_law 644 = .ok (.aload_n 2, 1) := by decide +kernel
theorem dL_law_645 : decode cL_law 645 = .ok (.aload_n 0, 1) := by decide +kernel
theorem dL_law_646 : decode cL_law 646 = .ok (.iload 4, 2) := by decide +kernel
theorem dL_law_648 : decode cL_law 648 = .ok (.iconst 1, 1) := by decide +kernel
theorem dL_law_649 : decode cL_law 649 = .ok (.iadd, 1) := by decide +kernel
theorem dL_law_650 : decode cL_law 650 = .ok (.iaload, 1) := by decide +kernel
theorem dL_law_651 : decode cL_law 651 = .ok (.aload_n 0, 1) := by decide +kernel
theorem dL_law_652 : decode cL_law 652 = .ok (.iload 4, 2) := by decide +kernel
theorem dL_law_654 : decode cL_law 654 = .ok (.iconst 2, 1) := by decide +kernel
theorem dL_law_655 : decode cL_law 655 = .ok (.iadd, 1) := by decide +kernel
theorem dL_law_656 : decode cL_law 656 = .ok (.iaload, 1) := by decide +kernel
theorem dL_law_657 : decode cL_law 657 = .ok (.invokevirtual 73, 3) := by decide +kernel
theorem dL_law_660 : decode cL_law 660 = .ok (.if_icmp .eq 1222, 3) := by decide +kernel
theorem dL_law_663 : decode cL_law 663 = .ok (.iconst 0, 1) := by decide +kernel
theorem dL_law_664 : decode cL_law 664 = .ok (.ireturn, 1) := by decide +kernel
theorem dL_law_665 : decode cL_law 665 = .ok (.aload_n 1, 1) := by decide +kernel
theorem dL_law_666 : decode cL_law 666 = .ok (.aload_n 0, 1) := by decide +kernel
theorem dL_law_667 : decode cL_law 667 = .ok (.iload 4, 2) := by decide +kernel
theorem dL_law_669 : decode cL_law 669 = .ok (.iconst 1, 1) := by decide +kernel
theorem dL_law_670 : decode cL_law 670 = .ok (.iadd, 1) := by decide +kernel
theorem dL_law_671 : decode cL_law 671 = .ok (.iaload, 1) := by decide +kernel
theorem dL_law_672 : decode cL_law 672 = .ok (.invokevirtual 74, 3) := by decide +kernel
theorem dL_law_675 : decode cL_law 675 = .ok (.aload_n 2, 1) := by decide +kernel
theorem dL_law_676 : decode cL_law 676 = .ok (.aload_n 0, 1) := by decide +kernel
theorem dL_law_677 : decode cL_law 677 = .ok (.iload 4, 2) := by decide +kernel
theorem dL_law_679 : decode cL_law 679 = .ok (.iconst 1, 1) := by decide +kernel
theorem dL_law_680 : decode cL_law 680 = .ok (.iadd, 1) := by decide +kernel
theorem dL_law_681 : decode cL_law 681 = .ok (.iaload, 1) := by decide +kernel
theorem dL_law_682 : decode cL_law 682 = .ok (.invokevirtual 77, 3) := by decide +kernel
theorem dL_law_685 : decode cL_law 685 = .ok (.if_icmp .eq 1197, 3) := by decide +kernel
theorem dL_law_688 : decode cL_law 688 = .ok (.iconst 0, 1) := by decide +kernel
theorem dL_law_689 : decode cL_law 689 = .ok (.ireturn, 1) := by decide +kernel
theorem dL_law_690 : decode cL_law 690 = .ok (.aload_n 1, 1) := by decide +kernel
theorem dL_law_691 : decode cL_law 691 = .ok (.invokevirtual 78, 3) := by decide +kernel
theorem dL_law_694 : decode cL_law 694 = .ok (.aload_n 2, 1) := by decide +kernel
theorem dL_law_695 : decode cL_law 695 = .ok (.invokevirtual 81, 3) := by decide +kernel
theorem dL_law_698 : decode cL_law 698 = .ok (.if_icmp .eq 1184, 3) := by decide +kernel
theorem dL_law_701 : decode cL_law 701 = .ok (.iconst 0, 1) := by decide +kernel
theorem dL_law_702 : decode cL_law 702 = .ok (.ireturn, 1) := by decide +kernel
theorem dL_law_703 : decode cL_law 703 = .ok (.aload_n 1, 1) := by decide +kernel
theorem dL_law_704 : decode cL_law 704 = .ok (.aload_n 0, 1) := by decide +kernel
theorem dL_law_705 : decode cL_law 705 = .ok (.iload 4, 2) := by decide +kernel
theorem dL_law_707 : decode cL_law 707 = .ok (.iconst 1, 1) := by decide +kernel
theorem dL_law_708 : decode cL_law 708 = .ok (.iadd, 1) := by decide +kernel
theorem dL_law_709 : decode cL_law 709 = .ok (.iaload, 1) := by decide +kernel
theorem dL_law_710 : decode cL_law 710 = .ok (.invokevirtual 82, 3) := by decide +kernel
theorem dL_law_713 : decode cL_law 713 = .ok (.aload_n 2, 1) := by decide +kernel
theorem dL_law_714 : decode cL_law 714 = .ok (.aload_n 0, 1) := by decide +kernel
theorem dL_law_715 : decode cL_law 715 = .ok (.iload 4, 2) := by decide +kernel
theorem dL_law_717 : decode cL_law 717 = .ok (.iconst 1, 1) := by decide +kernel
theorem dL_law_718 : decode cL_law 718 = .ok (.iadd, 1) := by decide +kernel
theorem dL_law_719 : decode cL_law 719 = .ok (.iaload, 1) := by decide +kernel
theorem dL_law_720 : decode cL_law 720 = .ok (.invokevirtual 85, 3) := by decide +kernel
theorem dL_law_723 : decode cL_law 723 = .ok (.if_icmp .eq 1159, 3) := by decide +kernel
theorem dL_law_726 : decode cL_law 726 = .ok (.iconst 0, 1) := by decide +kernel
theorem dL_law_727 : decode cL_law 727 = .ok (.ireturn, 1) := by decide +kernel
theorem dL_law_728 : decode cL_law 728 = .ok (.aload_n 1, 1) := by decide +kernel
theorem dL_law_729 : decode cL_law 729 = .ok (.invokevirtual 86, 3) := by decide +kernel
theorem dL_law_732 : decode cL_law 732 = .ok (.aload_n 2, 1) := by decide +kernel
theorem dL_law_733 : decode cL_law 733 = .ok (.invokevirtual 89, 3) := by decide +kernel
theorem dL_law_736 : decode cL_law 736 = .ok (.if_icmp .eq 1146, 3) := by decide +kernel
theorem dL_law_739 : decode cL_law 739 = .ok (.iconst 0, 1) := by decide +kernel
theorem dL_law_740 : decode cL_law 740 = .ok (.ireturn, 1) := by decide +kernel
theorem dL_law_741 : decode cL_law 741 = .ok (.aload_n 1, 1) := by decide +kernel
theorem dL_law_742 : decode cL_law 742 = .ok (.aload_n 0, 1) := by decide +kernel
theorem dL_law_743 : decode cL_law 743 = .ok (.iload 4, 2) := by decide +kernel
theorem dL_law_745 : decode cL_law 745 = .ok (.iconst 1, 1) := by decide +kernel
theorem dL_law_746 : decode cL_law 746 = .ok (.iadd, 1) := by decide +kernel
theorem dL_law_747 : decode cL_law 747 = .ok (.iaload, 1) := by decide +kernel
theorem dL_law_748 : decode cL_law 748 = .ok (.invokevirtual 90, 3) := by decide +kernel
theorem dL_law_751 : decode cL_law 751 = .ok (.aload_n 2, 1) := by decide +kernel
theorem dL_law_752 : decode cL_law 752 = .ok (.aload_n 0, 1) := by decide +kernel
theorem dL_law_753 : decode cL_law 753 = .ok (.iload 4, 2) := by decide +kernel
theorem dL_law_755 : decode cL_law 755 = .ok (.iconst 1, 1) := by decide +kernel
theorem dL_law_756 : decode cL_law 756 = .ok (.iadd, 1) := by decide +kernel
theorem dL_law_757 : decode cL_law 757 = .ok (.iaload, 1) := by decide +kernel
theorem dL_law_758 : decode cL_law 758 = .ok (.invokevirtual 93, 3) := by decide +kernel
theorem dL_law_761 : decode cL_law 761 = .ok (.if_icmp .eq 1121, 3) := by decide +kernel
theorem dL_law_764 : decode cL_law 764 = .ok (.iconst 0, 1) := by decide +kernel
theorem dL_law_765 : decode cL_law 765 = .ok (.ireturn, 1) := by decide +kernel
theorem dL_law_766 : decode cL_law 766 = .ok (.aload_n 1, 1) := by decide +kernel
theorem dL_law_767 : decode cL_law 767 = .ok (.aload_n 0, 1) := by decide +kernel
theorem dL_law_768 : decode cL_law 768 = .ok (.iload 4, 2) := by decide +kernel
theorem dL_law_770 : decode cL_law 770 = .ok (.iconst 1, 1) := by decide +kernel
theorem dL_law_771 : decode cL_law 771 = .ok (.iadd, 1) := by decide +kernel
theorem dL_law_772 : decode cL_law 772 = .ok (.iaload, 1) := by decide +kernel
theorem dL_law_773 : decode cL_law 773 = .ok (.aload_n 0, 1) := by decide +kernel
theorem dL_law_774 : decode cL_law 774 = .ok (.iload 4, 2) := by decide +kernel
theorem dL_law_776 : decode cL_law 776 = .ok (.iconst 2, 1) := by decide +kernel
theorem dL_law_777 : decode cL_law 777 = .ok (.iadd, 1) := by decide +kernel
theorem dL_law_778 : decode cL_law 778 = .ok (.iaload, 1) := by decide +kernel
theorem dL_law_779 : decode cL_law 779 = .ok (.invokevirtual 94, 3) := by decide +kernel
theorem dL_law_782 : decode cL_law 782 = .ok (.aload_n 2, 1) := by decide +kernel
theorem dL_law_783 : decode cL_law 783 = .ok (.aload_n 0, 1) := by decide +kernel
theorem dL_law_784 : decode cL_law 784 = .ok (.iload 4, 2) := by decide +kernel
theorem dL_law_786 : decode cL_law 786 = .ok (.iconst 1, 1) := by decide +kernel
theorem dL_law_787 : decode cL_law 787 = .ok (.iadd, 1) := by decide +kernel
theorem dL_law_788 : decode cL_law 788 = .ok (.iaload, 1) := by decide +kernel
theorem dL_law_789 : decode cL_law 789 = .ok (.aload_n 0, 1) := by decide +kernel
theorem dL_law_790 : decode cL_law 790 = .ok (.iload 4, 2) := by decide +kernel
theorem dL_law_792 : decode cL_law 792 = .ok (.iconst 2, 1) := by decide +kernel
theorem dL_law_793 : decode cL_law 793 = .ok (.iadd, 1) := by decide +kernel
theorem dL_law_794 : decode cL_law 794 = .ok (.iaload, 1) := by decide +kernel
theorem dL_law_795 : decode cL_law 795 = .ok (.invokevirtual 97, 3) := by decide +kernel
theorem dL_law_798 : decode cL_law 798 = .ok (.if_icmp .eq 1084, 3) := by decide +kernel
theorem dL_law_801 : decode cL_law 801 = .ok (.iconst 0, 1) := by decide +kernel
theorem dL_law_802 : decode cL_law 802 = .ok (.ireturn, 1) := by decide +kernel
theorem dL_law_803 : decode cL_law 803 = .ok (.aload_n 1, 1) := by decide +kernel
theorem dL_law_804 : decode cL_law 804 = .ok (.aload_n 0, 1) := by decide +kernel
theorem dL_law_805 : decode cL_law 805 = .ok (.iload 4, 2) := by decide +kernel
theorem dL_law_807 : decode cL_law 807 = .ok (.iconst 1, 1) := by decide +kernel
theorem dL_law_808 : decode cL_law 808 = .ok (.iadd, 1) := by decide +kernel
theorem dL_law_809 : decode cL_law 809 = .ok (.iaload, 1) := by decide +kernel
theorem dL_law_810 : decode cL_law 810 = .ok (.invokevirtual 98, 3) := by decide +kernel
theorem dL_law_813 : decode cL_law 813 = .ok (.aload_n 2, 1) := by decide +kernel
theorem dL_law_814 : decode cL_law 814 = .ok (.aload_n 0, 1) := by decide +kernel
theorem dL_law_815 : decode cL_law 815 = .ok (.iload 4, 2) := by decide +kernel
theorem dL_law_817 : decode cL_law 817 = .ok (.iconst 1, 1) := by decide +kernel
theorem dL_law_818 : decode cL_law 818 = .ok (.iadd, 1) := by decide +kernel
theorem dL_law_819 : decode cL_law 819 = .ok (.iaload, 1) := by decide +kernel
theorem dL_law_820 : decode cL_law 820 = .ok (.invokevirtual 101, 3) := by decide +kernel
theorem dL_law_823 : decode cL_law 823 = .ok (.if_icmp .eq 1059, 3) := by decide +kernel
theorem dL_law_826 : decode cL_law 826 = .ok (.iconst 0, 1) := by decide +kernel
theorem dL_law_827 : decode cL_law 827 = .ok (.ireturn, 1) := by decide +kernel
theorem dL_law_828 : decode cL_law 828 = .ok (.aload_n 1, 1) := by decide +kernel
theorem dL_law_829 : decode cL_law 829 = .ok (.invokevirtual 102, 3) := by decide +kernel
theorem dL_law_832 : decode cL_law 832 = .ok (.aload_n 2, 1) := by decide +kernel
theorem dL_law_833 : decode cL_law 833 = .ok (.invokevirtual 105, 3) := by decide +kernel
theorem dL_law_836 : decode cL_law 836 = .ok (.if_icmp .eq 1046, 3) := by decide +kernel
theorem dL_law_839 : decode cL_law 839 = .ok (.iconst 0, 1) := by decide +kernel
theorem dL_law_840 : decode cL_law 840 = .ok (.ireturn, 1) := by decide +kernel
theorem dL_law_841 : decode cL_law 841 = .ok (.aload_n 1, 1) := by decide +kernel
theorem dL_law_842 : decode cL_law 842 = .ok (.invokevirtual 106, 3) := by decide +kernel
theorem dL_law_845 : decode cL_law 845 = .ok (.aload_n 2, 1) := by decide +kernel
theorem dL_law_846 : decode cL_law 846 = .ok (.invokevirtual 109, 3) := by decide +kernel
theorem dL_law_849 : decode cL_law 849 = .ok (.if_icmp .eq 1033, 3) := by decide +kernel
theorem dL_law_852 : decode cL_law 852 = .ok (.iconst 0, 1) := by decide +kernel
theorem dL_law_853 : decode cL_law 853 = .ok (.ireturn, 1) := by decide +kernel
theorem dL_law_854 : decode cL_law 854 = .ok (.aload_n 1, 1) := by decide +kernel
theorem dL_law_855 : decode cL_law 855 = .ok (.aload_n 0, 1) := by decide +kernel
theorem dL_law_856 : decode cL_law 856 = .ok (.iload 4, 2) := by decide +kernel
theorem dL_law_858 : decode cL_law 858 = .ok (.iconst 1, 1) := by decide +kernel
theorem dL_law_859 : decode cL_law 859 = .ok (.iadd, 1) := by decide +kernel
theorem dL_law_860 : decode cL_law 860 = .ok (.iaload, 1) := by decide +kernel
theorem dL_law_861 : decode cL_law 861 = .ok (.invokevirtual 110, 3) := by decide +kernel
theorem dL_law_864 : decode cL_law 864 = .ok (.aload_n 2, 1) := by decide +kernel
theorem dL_law_865 : decode cL_law 865 = .ok (.aload_n 0, 1) := by decide +kernel
theorem dL_law_866 : decode cL_law 866 = .ok (.iload 4, 2) := by decide +kernel
theorem dL_law_868 : decode cL_law 868 = .ok (.iconst 1, 1) := by decide +kernel
theorem dL_law_869 : decode cL_law 869 = .ok (.iadd, 1) := by decide +kernel
theorem dL_law_870 : decode cL_law 870 = .ok (.iaload, 1) := by decide +kernel
theorem dL_law_871 : decode cL_law 871 = .ok (.invokevirtual 113, 3) := by decide +kernel
theorem dL_law_874 : decode cL_law 874 = .ok (.if_icmp .eq 1008, 3) := by decide +kernel
theorem dL_law_877 : decode cL_law 877 = .ok (.iconst 0, 1) := by decide +kernel
theorem dL_law_878 : decode cL_law 878 = .ok (.ireturn, 1) := by decide +kernel
theorem dL_law_879 : decode cL_law 879 = .ok (.aload_n 1, 1) := by decide +kernel
theorem dL_law_880 : decode cL_law 880 = .ok (.invokevirtual 114, 3) := by decide +kernel
theorem dL_law_883 : decode cL_law 883 = .ok (.aload_n 2, 1) := by decide +kernel
theorem dL_law_884 : decode cL_law 884 = .ok (.invokevirtual 117, 3) := by decide +kernel
theorem dL_law_887 : decode cL_law 887 = .ok (.if_icmp .eq 995, 3) := by decide +kernel
theorem dL_law_890 : decode cL_law 890 = .ok (.iconst 0, 1) := by decide +kernel
theorem dL_law_891 : decode cL_law 891 = .ok (.ireturn, 1) := by decide +kernel
theorem dL_law_892 : decode cL_law 892 = .ok (.aload_n 1, 1) := by decide +kernel
theorem dL_law_893 : decode cL_law 893 = .ok (.aload_n 0, 1) := by decide +kernel
theorem dL_law_894 : decode cL_law 894 = .ok (.iload 4, 2) := by decide +kernel
theorem dL_law_896 : decode cL_law 896 = .ok (.iconst 1, 1) := by decide +kernel
theorem dL_law_897 : decode cL_law 897 = .ok (.iadd, 1) := by decide +kernel
theorem dL_law_898 : decode cL_law 898 = .ok (.iaload, 1) := by decide +kernel
theorem dL_law_899 : decode cL_law 899 = .ok (.invokevirtual 118, 3) := by decide +kernel
theorem dL_law_902 : decode cL_law 902 = .ok (.aload_n 2, 1) := by decide +kernel
theorem dL_law_903 : decode cL_law 903 = .ok (.aload_n 0, 1) := by decide +kernel
theorem dL_law_904 : decode cL_law 904 = .ok (.iload 4, 2) := by decide +kernel
theorem dL_law_906 : decode cL_law 906 = .ok (.iconst 1, 1) := by decide +kernel
theorem dL_law_907 : decode cL_law 907 = .ok (.iadd, 1) := by decide +kernel
theorem dL_law_908 : decode cL_law 908 = .ok (.iaload, 1) := by decide +kernel
theorem dL_law_909 : decode cL_law 909 = .ok (.invokevirtual 121, 3) := by decide +kernel
theorem dL_law_912 : decode cL_law 912 = .ok (.if_icmp .eq 970, 3) := by decide +kernel
theorem dL_law_915 : decode cL_law 915 = .ok (.iconst 0, 1) := by decide +kernel
theorem dL_law_916 : decode cL_law 916 = .ok (.ireturn, 1) := by decide +kernel
theorem dL_law_917 : decode cL_law 917 = .ok (.aload_n 1, 1) := by decide +kernel
theorem dL_law_918 : decode cL_law 918 = .ok (.aload_n 0, 1) := by decide +kernel
theorem dL_law_919 : decode cL_law 919 = .ok (.iload 4, 2) := by decide +kernel
theorem dL_law_921 : decode cL_law 921 = .ok (.iconst 1, 1) := by decide +kernel
theorem dL_law_922 : decode cL_law 922 = .ok (.iadd, 1) := by decide +kernel
theorem dL_law_923 : decode cL_law 923 = .ok (.iaload, 1) := by decide +kernel
theorem dL_law_924 : decode cL_law 924 = .ok (.invokevirtual 122, 3) := by decide +kernel
theorem dL_law_927 : decode cL_law 927 = .ok (.aload_n 2, 1) := by decide +kernel
theorem dL_law_928 : decode cL_law 928 = .ok (.aload_n 0, 1) := by decide +kernel
theorem dL_law_929 : decode cL_law 929 = .ok (.iload 4, 2) := by decide +kernel
theorem dL_law_931 : decode cL_law 931 = .ok (.iconst 1, 1) := by decide +kernel
theorem dL_law_932 : decode cL_law 932 = .ok (.iadd, 1) := by decide +kernel
theorem dL_law_933 : decode cL_law 933 = .ok (.iaload, 1) := by decide +kernel
theorem dL_law_934 : decode cL_law 934 = .ok (.invokevirtual 125, 3) := by decide +kernel
theorem dL_law_937 : decode cL_law 937 = .ok (.if_icmp .eq 945, 3) := by decide +kernel
theorem dL_law_940 : decode cL_law 940 = .ok (.iconst 0, 1) := by decide +kernel
theorem dL_law_941 : decode cL_law 941 = .ok (.ireturn, 1) := by decide +kernel
theorem dL_law_942 : decode cL_law 942 = .ok (.aload_n 1, 1) := by decide +kernel
theorem dL_law_943 : decode cL_law 943 = .ok (.aload_n 0, 1) := by decide +kernel
theorem dL_law_944 : decode cL_law 944 = .ok (.iload 4, 2) := by decide +kernel
theorem dL_law_946 : decode cL_law 946 = .ok (.iconst 1, 1) := by decide +kernel
theorem dL_law_947 : decode cL_law 947 = .ok (.iadd, 1) := by decide +kernel
theorem dL_law_948 : decode cL_law 948 = .ok (.iaload, 1) := by decide +kernel
theorem dL_law_949 : decode cL_law 949 = .ok (.invokevirtual 126, 3) := by decide +kernel
theorem dL_law_952 : decode cL_law 952 = .ok (.aload_n 2, 1) := by decide +kernel
theorem dL_law_953 : decode cL_law 953 = .ok (.aload_n 0, 1) := by decide +kernel
theorem dL_law_954 : decode cL_law 954 = .ok (.iload 4, 2) := by decide +kernel
theorem dL_law_956 : decode cL_law 956 = .ok (.iconst 1, 1) := by decide +kernel
theorem dL_law_957 : decode cL_law 957 = .ok (.iadd, 1) := by decide +kernel
theorem dL_law_958 : decode cL_law 958 = .ok (.iaload, 1) := by decide +kernel
theorem dL_law_959 : decode cL_law 959 = .ok (.invokevirtual 129, 3) := by decide +kernel
theorem dL_law_962 : decode cL_law 962 = .ok (.if_icmp .eq 920, 3) := by decide +kernel
theorem dL_law_965 : decode cL_law 965 = .ok (.iconst 0, 1) := by decide +kernel
theorem dL_law_966 : decode cL_law 966 = .ok (.ireturn, 1) := by decide +kernel
theorem dL_law_967 : decode cL_law 967 = .ok (.aload_n 1, 1) := by decide +kernel
theorem dL_law_968 : decode cL_law 968 = .ok (.aload_n 0, 1) := by decide +kernel
theorem dL_law_969 : decode cL_law 969 = .ok (.iload 4, 2) := by decide +kernel
theorem dL_law_971 : decode cL_law 971 = .ok (.iconst 1, 1) := by decide +kernel
theorem dL_law_972 : decode cL_law 972 = .ok (.iadd, 1) := by decide +kernel
theorem dL_law_973 : decode cL_law 973 = .ok (.iaload, 1) := by decide +kernel
theorem dL_law_974 : decode cL_law 974 = .ok (.aload_n 0, 1) := by decide +kernel
theorem dL_law_975 : decode cL_law 975 = .ok (.iload 4, 2) := by decide +kernel
theorem dL_law_977 : decode cL_law 977 = .ok (.iconst 2, 1) := by decide +kernel
theorem dL_law_978 : decode cL_law 978 = .ok (.iadd, 1) := by decide +kernel
theorem dL_law_979 : decode cL_law 979 = .ok (.iaload, 1) := by decide +kernel
theorem dL_law_980 : decode cL_law 980 = .ok (.invokevirtual 130, 3) := by decide +kernel
theorem dL_law_983 : decode cL_law 983 = .ok (.aload_n 2, 1) := by decide +kernel
theorem dL_law_984 : decode cL_law 984 = .ok (.aload_n 0, 1) := by decide +kernel
theorem dL_law_985 : decode cL_law 985 = .ok (.iload 4, 2) := by decide +kernel
theorem dL_law_987 : decode cL_law 987 = .ok (.iconst 1, 1) := by decide +kernel
theorem dL_law_988 : decode cL_law 988 = .ok (.iadd, 1) := by decide +kernel
theorem dL_law_989 : decode cL_law 989 = .ok (.iaload, 1) := by decide +kernel
theorem dL_law_990 : decode cL_law 990 = .ok (.aload_n 0, 1) := by decide +kernel
theorem dL_law_991 : decode cL_law 991 = .ok (.iload 4, 2) := by decide +kernel
theorem dL_law_993 : decode cL_law 993 = .ok (.iconst 2, 1) := by decide +kernel
theorem dL_law_994 : decode cL_law 994 = .ok (.iadd, 1) := by decide +kernel
theorem dL_law_995 : decode cL_law 995 = .ok (.iaload, 1) := by decide +kernel
theorem dL_law_996 : decode cL_law 996 = .ok (.invokevirtual 133, 3) := by decide +kernel
theorem dL_law_999 : decode cL_law 999 = .ok (.if_icmp .eq 883, 3) := by decide +kernel
theorem dL_law_1002 : decode cL_law 1002 = .ok (.iconst 0, 1) := by decide +kernel
theorem dL_law_1003 : decode cL_law 1003 = .ok (.ireturn, 1) := by decide +kernel
theorem dL_law_1004 : decode cL_law 1004 = .ok (.aload_n 1, 1) := by decide +kernel
theorem dL_law_1005 : decode cL_law 1005 = .ok (.aload_n 0, 1) := by decide +kernel
theorem dL_law_1006 : decode cL_law 1006 = .ok (.iload 4, 2) := by decide +kernel
theorem dL_law_1008 : decode cL_law 1008 = .ok (.iconst 1, 1) := by decide +kernel
theorem dL_law_1009 : decode cL_law 1009 = .ok (.iadd, 1) := by decide +kernel
theorem dL_law_1010 : decode cL_law 1010 = .ok (.iaload, 1) := by decide +kernel
theorem dL_law_1011 : decode cL_law 1011 = .ok (.invokevirtual 134, 3) := by decide +kernel
theorem dL_law_1014 : decode cL_law 1014 = .ok (.aload_n 2, 1) := by decide +kernel
theorem dL_law_1015 : decode cL_law 1015 = .ok (.aload_n 0, 1) := by decide +kernel
theorem dL_law_1016 : decode cL_law 1016 = .ok (.iload 4, 2) := by decide +kernel
theorem dL_law_1018 : decode cL_law 1018 = .ok (.iconst 1, 1) := by decide +kernel
theorem dL_law_1019 : decode cL_law 1019 = .ok (.iadd, 1) := by decide +kernel
theorem dL_law_1020 : decode cL_law 1020 = .ok (.iaload, 1) := by decide +kernel
theorem dL_law_1021 : decode cL_law 1021 = .ok (.invokevirtual 137, 3) := by decide +kernel
theorem dL_law_1024 : decode cL_law 1024 = .ok (.if_icmp .eq 858, 3) := by decide +kernel
theorem dL_law_1027 : decode cL_law 1027 = .ok (.iconst 0, 1) := by decide +kernel
theorem dL_law_1028 : decode cL_law 1028 = .ok (.ireturn, 1) := by decide +kernel
theorem dL_law_1029 : decode cL_law 1029 = .ok (.aload_n 1, 1) := by decide +kernel
theorem dL_law_1030 : decode cL_law 1030 = .ok (.invokevirtual 138, 3) := by decide +kernel
theorem dL_law_1033 : decode cL_law 1033 = .ok (.aload_n 2, 1) := by decide +kernel
theorem dL_law_1034 : decode cL_law 1034 = .ok (.invokevirtual 141, 3) := by decide +kernel
theorem dL_law_1037 : decode cL_law 1037 = .ok (.if_icmp .eq 845, 3) := by decide +kernel
theorem dL_law_1040 : decode cL_law 1040 = .ok (.iconst 0, 1) := by decide +kernel
theorem dL_law_1041 : decode cL_law 1041 = .ok (.ireturn, 1) := by decide +kernel
theorem dL_law_1042 : decode cL_law 1042 = .ok (.aload_n 1, 1) := by decide +kernel
theorem dL_law_1043 : decode cL_law 1043 = .ok (.aload_n 0, 1) := by decide +kernel
theorem dL_law_1044 : decode cL_law 1044 = .ok (.iload 4, 2) := by decide +kernel
theorem dL_law_1046 : decode cL_law 1046 = .ok (.iconst 1, 1) := by decide +kernel
theorem dL_law_1047 : decode cL_law 1047 = .ok (.iadd, 1) := by decide +kernel
theorem dL_law_1048 : decode cL_law 1048 = .ok (.iaload, 1) := by decide +kernel
theorem dL_law_1049 : decode cL_law 1049 = .ok (.aload_n 0, 1) := by decide +kernel
theorem dL_law_1050 : decode cL_law 1050 = .ok (.iload 4, 2) := by decide +kernel
theorem dL_law_1052 : decode cL_law 1052 = .ok (.iconst 2, 1) := by decide +kernel
theorem dL_law_1053 : decode cL_law 1053 = .ok (.iadd, 1) := by decide +kernel
theorem dL_law_1054 : decode cL_law 1054 = .ok (.iaload, 1) := by decide +kernel
theorem dL_law_1055 : decode cL_law 1055 = .ok (.invokevirtual 142, 3) := by decide +kernel
theorem dL_law_1058 : decode cL_law 1058 = .ok (.aload_n 2, 1) := by decide +kernel
theorem dL_law_1059 : decode cL_law 1059 = .ok (.aload_n 0, 1) := by decide +kernel
theorem dL_law_1060 : decode cL_law 1060 = .ok (.iload 4, 2) := by decide +kernel
theorem dL_law_1062 : decode cL_law 1062 = .ok (.iconst 1, 1) := by decide +kernel
theorem dL_law_1063 : decode cL_law 1063 = .ok (.iadd, 1) := by decide +kernel
theorem dL_law_1064 : decode cL_law 1064 = .ok (.iaload, 1) := by decide +kernel
theorem dL_law_1065 : decode cL_law 1065 = .ok (.aload_n 0, 1) := by decide +kernel
theorem dL_law_1066 : decode cL_law 1066 = .ok (.iload 4, 2) := by decide +kernel
theorem dL_law_1068 : decode cL_law 1068 = .ok (.iconst 2, 1) := by decide +kernel
theorem dL_law_1069 : decode cL_law 1069 = .ok (.iadd, 1) := by decide +kernel
theorem dL_law_1070 : decode cL_law 1070 = .ok (.iaload, 1) := by decide +kernel
theorem dL_law_1071 : decode cL_law 1071 = .ok (.invokevirtual 145, 3) := by decide +kernel
theorem dL_law_1074 : decode cL_law 1074 = .ok (.if_icmp .eq 808, 3) := by decide +kernel
theorem dL_law_1077 : decode cL_law 1077 = .ok (.iconst 0, 1) := by decide +kernel
theorem dL_law_1078 : decode cL_law 1078 = .ok (.ireturn, 1) := by decide +kernel
theorem dL_law_1079 : decode cL_law 1079 = .ok (.aload_n 1, 1) := by decide +kernel
theorem dL_law_1080 : decode cL_law 1080 = .ok (.aload_n 0, 1) := by decide +kernel
theorem dL_law_1081 : decode cL_law 1081 = .ok (.iload 4, 2) := by decide +kernel
theorem dL_law_1083 : decode cL_law 1083 = .ok (.iconst 1, 1) := by decide +kernel
theorem dL_law_1084 : decode cL_law 1084 = .ok (.iadd, 1) := by decide +kernel
theorem dL_law_1085 : decode cL_law 1085 = .ok (.iaload, 1) := by decide +kernel
theorem dL_law_1086 : decode cL_law 1086 = .ok (.invokevirtual 146, 3) := by decide +kernel
theorem dL_law_1089 : decode cL_law 1089 = .ok (.aload_n 2, 1) := by decide +kernel
theorem dL_law_1090 : decode cL_law 1090 = .ok (.aload_n 0, 1) := by decide +kernel
theorem dL_law_1091 : decode cL_law 1091 = .ok (.iload 4, 2) := by decide +kernel
theorem dL_law_1093 : decode cL_law 1093 = .ok (.iconst 1, 1) := by decide +kernel
theorem dL_law_1094 : decode cL_law 1094 = .ok (.iadd, 1) := by decide +kernel
theorem dL_law_1095 : decode cL_law 1095 = .ok (.iaload, 1) := by decide +kernel
theorem dL_law_1096 : decode cL_law 1096 = .ok (.invokevirtual 149, 3) := by decide +kernel
theorem dL_law_1099 : decode cL_law 1099 = .ok (.if_icmp .eq 783, 3) := by decide +kernel
theorem dL_law_1102 : decode cL_law 1102 = .ok (.iconst 0, 1) := by decide +kernel
theorem dL_law_1103 : decode cL_law 1103 = .ok (.ireturn, 1) := by decide +kernel
theorem dL_law_1104 : decode cL_law 1104 = .ok (.aload_n 1, 1) := by decide +kernel
theorem dL_law_1105 : decode cL_law 1105 = .ok (.invokevirtual 150, 3) := by decide +kernel
theorem dL_law_1108 : decode cL_law 1108 = .ok (.aload_n 2, 1) := by decide +kernel
theorem dL_law_1109 : decode cL_law 1109 = .ok (.invokevirtual 153, 3) := by decide +kernel
theorem dL_law_1112 : decode cL_law 1112 = .ok (.if_icmp .eq 770, 3) := by decide +kernel
theorem dL_law_1115 : decode cL_law 1115 = .ok (.iconst 0, 1) := by decide +kernel
theorem dL_law_1116 : decode cL_law 1116 = .ok (.ireturn, 1) := by decide +kernel
theorem dL_law_1117 : decode cL_law 1117 = .ok (.aload_n 1, 1) := by decide +kernel
theorem dL_law_1118 : decode cL_law 1118 = .ok (.aload_n 0, 1) := by decide +kernel
theorem dL_law_1119 : decode cL_law 1119 = .ok (.iload 4, 2) := by decide +kernel
theorem dL_law_1121 : decode cL_law 1121 = .ok (.iconst 1, 1) := by decide +kernel
theorem dL_law_1122 : decode cL_law 1122 = .ok (.iadd, 1) := by decide +kernel
theorem dL_law_1123 : decode cL_law 1123 = .ok (.iaload, 1) := by decide +kernel
theorem dL_law_1124 : decode cL_law 1124 = .ok (.aload_n 0, 1) := by decide +kernel
theorem dL_law_1125 : decode cL_law 1125 = .ok (.iload 4, 2) := by decide +kernel
theorem dL_law_1127 : decode cL_law 1127 = .ok (.iconst 2, 1) := by decide +kernel
theorem dL_law_1128 : decode cL_law 1128 = .ok (.iadd, 1) := by decide +kernel
theorem dL_law_1129 : decode cL_law 1129 = .ok (.iaload, 1) := by decide +kernel
theorem dL_law_1130 : decode cL_law 1130 = .ok (.invokevirtual 154, 3) := by decide +kernel
theorem dL_law_1133 : decode cL_law 1133 = .ok (.aload_n 2, 1) := by decide +kernel
theorem dL_law_1134 : decode cL_law 1134 = .ok (.aload_n 0, 1) := by decide +kernel
theorem dL_law_1135 : decode cL_law 1135 = .ok (.iload 4, 2) := by decide +kernel
theorem dL_law_1137 : decode cL_law 1137 = .ok (.iconst 1, 1) := by decide +kernel
theorem dL_law_1138 : decode cL_law 1138 = .ok (.iadd, 1) := by decide +kernel
theorem dL_law_1139 : decode cL_law 1139 = .ok (.iaload, 1) := by decide +kernel
theorem dL_law_1140 : decode cL_law 1140 = .ok (.aload_n 0, 1) := by decide +kernel
theorem dL_law_1141 : decode cL_law 1141 = .ok (.iload 4, 2) := by decide +kernel
theorem dL_law_1143 : decode cL_law 1143 = .ok (.iconst 2, 1) := by decide +kernel
theorem dL_law_1144 : decode cL_law 1144 = .ok (.iadd, 1) := by decide +kernel
theorem dL_law_1145 : decode cL_law 1145 = .ok (.iaload, 1) := by decide +kernel
theorem dL_law_1146 : decode cL_law 1146 = .ok (.invokevirtual 157, 3) := by decide +kernel
theorem dL_law_1149 : decode cL_law 1149 = .ok (.if_icmp .eq 733, 3) := by decide +kernel
theorem dL_law_1152 : decode cL_law 1152 = .ok (.iconst 0, 1) := by decide +kernel
theorem dL_law_1153 : decode cL_law 1153 = .ok (.ireturn, 1) := by decide +kernel
theorem dL_law_1154 : decode cL_law 1154 = .ok (.aload_n 1, 1) := by decide +kernel
theorem dL_law_1155 : decode cL_law 1155 = .ok (.aload_n 0, 1) := by decide +kernel
theorem dL_law_1156 : decode cL_law 1156 = .ok (.iload 4, 2) := by decide +kernel
theorem dL_law_1158 : decode cL_law 1158 = .ok (.iconst 1, 1) := by decide +kernel
theorem dL_law_1159 : decode cL_law 1159 = .ok (.iadd, 1) := by decide +kernel
theorem dL_law_1160 : decode cL_law 1160 = .ok (.iaload, 1) := by decide +kernel
theorem dL_law_1161 : decode cL_law 1161 = .ok (.invokevirtual 158, 3) := by decide +kernel
theorem dL_law_1164 : decode cL_law 1164 = .ok (.aload_n 2, 1) := by decide +kernel
theorem dL_law_1165 : decode cL_law 1165 = .ok (.aload_n 0, 1) := by decide +kernel
theorem dL_law_1166 : decode cL_law 1166 = .ok (.iload 4, 2) := by decide +kernel
theorem dL_law_1168 : decode cL_law 1168 = .ok (.iconst 1, 1) := by decide +kernel
theorem dL_law_1169 : decode cL_law 1169 = .ok (.iadd, 1) := by decide +kernel
theorem dL_law_1170 : decode cL_law 1170 = .ok (.iaload, 1) := by decide +kernel
theorem dL_law_1171 : decode cL_law 1171 = .ok (.invokevirtual 161, 3) := by decide +kernel
theorem dL_law_1174 : decode cL_law 1174 = .ok (.if_icmp .eq 708, 3) := by decide +kernel
theorem dL_law_1177 : decode cL_law 1177 = .ok (.iconst 0, 1) := by decide +kernel
theorem dL_law_1178 : decode cL_law 1178 = .ok (.ireturn, 1) := by decide +kernel
theorem dL_law_1179 : decode cL_law 1179 = .ok (.aload_n 1, 1) := by decide +kernel
theorem dL_law_1180 : decode cL_law 1180 = .ok (.aload_n 0, 1) := by decide +kernel
theorem dL_law_1181 : decode cL_law 1181 = .ok (.iload 4, 2) := by decide +kernel
theorem dL_law_1183 : decode cL_law 1183 = .ok (.iconst 1, 1) := by decide +kernel
theorem dL_law_1184 : decode cL_law 1184 = .ok (.iadd, 1) := by decide +kernel
theorem dL_law_1185 : decode cL_law 1185 = .ok (.iaload, 1) := by decide +kernel
theorem dL_law_1186 : decode cL_law 1186 = .ok (.invokevirtual 162, 3) := by decide +kernel
theorem dL_law_1189 : decode cL_law 1189 = .ok (.aload_n 2, 1) := by decide +kernel
theorem dL_law_1190 : decode cL_law 1190 = .ok (.aload_n 0, 1) := by decide +kernel
theorem dL_law_1191 : decode cL_law 1191 = .ok (.iload 4, 2) := by decide +kernel
theorem dL_law_1193 : decode cL_law 1193 = .ok (.iconst 1, 1) := by decide +kernel
theorem dL_law_1194 : decode cL_law 1194 = .ok (.iadd, 1) := by decide +kernel
theorem dL_law_1195 : decode cL_law 1195 = .ok (.iaload, 1) := by decide +kernel
theorem dL_law_1196 : decode cL_law 1196 = .ok (.invokevirtual 165, 3) := by decide +kernel
theorem dL_law_1199 : decode cL_law 1199 = .ok (.if_icmp .eq 683, 3) := by decide +kernel
theorem dL_law_1202 : decode cL_law 1202 = .ok (.iconst 0, 1) := by decide +kernel
theorem dL_law_1203 : decode cL_law 1203 = .ok (.ireturn, 1) := by decide +kernel
theorem dL_law_1204 : decode cL_law 1204 = .ok (.aload_n 1, 1) := by decide +kernel
theorem dL_law_1205 : decode cL_law 1205 = .ok (.invokevirtual 166, 3) := by decide +kernel
theorem dL_law_1208 : decode cL_law 1208 = .ok (.aload_n 2, 1) := by decide +kernel
theorem dL_law_1209 : decode cL_law 1209 = .ok (.invokevirtual 169, 3) := by decide +kernel
theorem dL_law_1212 : decode cL_law 1212 = .ok (.if_icmp .eq 670, 3) := by decide +kernel
theorem dL_law_1215 : decode cL_law 1215 = .ok (.iconst 0, 1) := by decide +kernel
theorem dL_law_1216 : decode cL_law 1216 = .ok (.ireturn, 1) := by decide +kernel
theorem dL_law_1217 : decode cL_law 1217 = .ok (.aload_n 1, 1) := by decide +kernel
theorem dL_law_1218 : decode cL_law 1218 = .ok (.invokevirtual 170, 3) := by decide +kernel
theorem dL_law_1221 : decode cL_law 1221 = .ok (.aload_n 2, 1) := by decide +kernel
theorem dL_law_1222 : decode cL_law 1222 = .ok (.invokevirtual 173, 3) := by decide +kernel
theorem dL_law_1225 : decode cL_law 1225 = .ok (.if_icmp .eq 657, 3) := by decide +kernel
theorem dL_law_1228 : decode cL_law 1228 = .ok (.iconst 0, 1) := by decide +kernel
theorem dL_law_1229 : decode cL_law 1229 = .ok (.ireturn, 1) := by decide +kernel
theorem dL_law_1230 : decode cL_law 1230 = .ok (.aload_n 1, 1) := by decide +kernel
theorem dL_law_1231 : decode cL_law 1231 = .ok (.invokevirtual 174, 3) := by decide +kernel
theorem dL_law_1234 : decode cL_law 1234 = .ok (.aload_n 2, 1) := by decide +kernel
theorem dL_law_1235 : decode cL_law 1235 = .ok (.invokevirtual 177, 3) := by decide +kernel
theorem dL_law_1238 : decode cL_law 1238 = .ok (.if_icmp .eq 644, 3) := by decide +kernel
theorem dL_law_1241 : decode cL_law 1241 = .ok (.iconst 0, 1) := by decide +kernel
theorem dL_law_1242 : decode cL_law 1242 = .ok (.ireturn, 1) := by decide +kernel
theorem dL_law_1243 : decode cL_law 1243 = .ok (.aload_n 1, 1) := by decide +kernel
theorem dL_law_1244 : decode cL_law 1244 = .ok (.aload_n 0, 1) := by decide +kernel
theorem dL_law_1245 : decode cL_law 1245 = .ok (.iload 4, 2) := by decide +kernel
theorem dL_law_1247 : decode cL_law 1247 = .ok (.iconst 1, 1) := by decide +kernel
theorem dL_law_1248 : decode cL_law 1248 = .ok (.iadd, 1) := by decide +kernel
theorem dL_law_1249 : decode cL_law 1249 = .ok (.iaload, 1) := by decide +kernel
theorem dL_law_1250 : decode cL_law 1250 = .ok (.aload_n 0, 1) := by decide +kernel
theorem dL_law_1251 : decode cL_law 1251 = .ok (.iload 4, 2) := by decide +kernel
theorem dL_law_1253 : decode cL_law 1253 = .ok (.iconst 2, 1) := by decide +kernel
theorem dL_law_1254 : decode cL_law 1254 = .ok (.iadd, 1) := by decide +kernel
theorem dL_law_1255 : decode cL_law 1255 = .ok (.iaload, 1) := by decide +kernel
theorem dL_law_1256 : decode cL_law 1256 = .ok (.ifCond .eq 7, 3) := by decide +kernel
theorem dL_law_1259 : decode cL_law 1259 = .ok (.iconst 1, 1) := by decide +kernel
theorem dL_law_1260 : decode cL_law 1260 = .ok (.goto 4, 3) := by decide +kernel
theorem dL_law_1263 : decode cL_law 1263 = .ok (.iconst 0, 1) := by decide +kernel
theorem dL_law_1264 : decode cL_law 1264 = .ok (.aload_n 0, 1) := by decide +kernel
theorem dL_law_1265 : decode cL_law 1265 = .ok (.iload 4, 2) := by decide +kernel
theorem dL_law_1267 : decode cL_law 1267 = .ok (.iconst 3, 1) := by decide +kernel
theorem dL_law_1268 : decode cL_law 1268 = .ok (.iadd, 1) := by decide +kernel
theorem dL_law_1269 : decode cL_law 1269 = .ok (.iaload, 1) := by decide +kernel
theorem dL_law_1270 : decode cL_law 1270 = .ok (.ifCond .eq 7, 3) := by decide +kernel
theorem dL_law_1273 : decode cL_law 1273 = .ok (.iconst 1, 1) := by decide +kernel
theorem dL_law_1274 : decode cL_law 1274 = .ok (.goto 4, 3) := by decide +kernel
theorem dL_law_1277 : decode cL_law 1277 = .ok (.iconst 0, 1) := by decide +kernel
theorem dL_law_1278 : decode cL_law 1278 = .ok (.aload_n 0, 1) := by decide +kernel
theorem dL_law_1279 : decode cL_law 1279 = .ok (.iload 4, 2) := by decide +kernel
theorem dL_law_1281 : decode cL_law 1281 = .ok (.iconst 4, 1) := by decide +kernel
theorem dL_law_1282 : decode cL_law 1282 = .ok (.iadd, 1) := by decide +kernel
theorem dL_law_1283 : decode cL_law 1283 = .ok (.iaload, 1) := by decide +kernel
theorem dL_law_1284 : decode cL_law 1284 = .ok (.ifCond .eq 7, 3) := by decide +kernel
theorem dL_law_1287 : decode cL_law 1287 = .ok (.iconst 1, 1) := by decide +kernel
theorem dL_law_1288 : decode cL_law 1288 = .ok (.goto 4, 3) := by decide +kernel
theorem dL_law_1291 : decode cL_law 1291 = .ok (.iconst 0, 1) := by decide +kernel
theorem dL_law_1292 : decode cL_law 1292 = .ok (.invokevirtual 178, 3) := by decide +kernel
theorem dL_law_1295 : decode cL_law 1295 = .ok (.aload_n 2, 1) := by decide +kernel
theorem dL_law_1296 : decode cL_law 1296 = .ok (.aload_n 0, 1) := by decide +kernel
theorem dL_law_1297 : decode cL_law 1297 = .ok (.iload 4, 2) := by decide +kernel
theorem dL_law_1299 : decode cL_law 1299 = .ok (.iconst 1, 1) := by decide +kernel
theorem dL_law_1300 : decode cL_law 1300 = .ok (.iadd, 1) := by decide +kernel
theorem dL_law_1301 : decode cL_law 1301 = .ok (.iaload, 1) := by decide +kernel
theorem dL_law_1302 : decode cL_law 1302 = .ok (.aload_n 0, 1) := by decide +kernel
theorem dL_law_1303 : decode cL_law 1303 = .ok (.iload 4, 2) := by decide +kernel
theorem dL_law_1305 : decode cL_law 1305 = .ok (.iconst 2, 1) := by decide +kernel
theorem dL_law_1306 : decode cL_law 1306 = .ok (.iadd, 1) := by decide +kernel
theorem dL_law_1307 : decode cL_law 1307 = .ok (.iaload, 1) := by decide +kernel
theorem dL_law_1308 : decode cL_law 1308 = .ok (.ifCond .eq 7, 3) := by decide +kernel
theorem dL_law_1311 : decode cL_law 1311 = .ok (.iconst 1, 1) := by decide +kernel
theorem dL_law_1312 : decode cL_law 1312 = .ok (.goto 4, 3) := by decide +kernel
theorem dL_law_1315 : decode cL_law 1315 = .ok (.iconst 0, 1) := by decide +kernel
theorem dL_law_1316 : decode cL_law 1316 = .ok (.aload_n 0, 1) := by decide +kernel
theorem dL_law_1317 : decode cL_law 1317 = .ok (.iload 4, 2) := by decide +kernel
theorem dL_law_1319 : decode cL_law 1319 = .ok (.iconst 3, 1) := by decide +kernel
theorem dL_law_1320 : decode cL_law 1320 = .ok (.iadd, 1) := by decide +kernel
theorem dL_law_1321 : decode cL_law 1321 = .ok (.iaload, 1) := by decide +kernel
theorem dL_law_1322 : decode cL_law 1322 = .ok (.ifCond .eq 7, 3) := by decide +kernel
theorem dL_law_1325 : decode cL_law 1325 = .ok (.iconst 1, 1) := by decide +kernel
theorem dL_law_1326 : decode cL_law 1326 = .ok (.goto 4, 3) := by decide +kernel
theorem dL_law_1329 : decode cL_law 1329 = .ok (.iconst 0, 1) := by decide +kernel
theorem dL_law_1330 : decode cL_law 1330 = .ok (.aload_n 0, 1) := by decide +kernel
theorem dL_law_1331 : decode cL_law 1331 = .ok (.iload 4, 2) := by decide +kernel
theorem dL_law_1333 : decode cL_law 1333 = .ok (.iconst 4, 1) := by decide +kernel
theorem dL_law_1334 : decode cL_law 1334 = .ok (.iadd, 1) := by decide +kernel
theorem dL_law_1335 : decode cL_law 1335 = .ok (.iaload, 1) := by decide +kernel
theorem dL_law_1336 : decode cL_law 1336 = .ok (.ifCond .eq 7, 3) := by decide +kernel
theorem dL_law_1339 : decode cL_law 1339 = .ok (.iconst 1, 1) := by decide +kernel
theorem dL_law_1340 : decode cL_law 1340 = .ok (.goto 4, 3) := by decide +kernel
theorem dL_law_1343 : decode cL_law 1343 = .ok (.iconst 0, 1) := by decide +kernel
theorem dL_law_1344 : decode cL_law 1344 = .ok (.invokevirtual 182, 3) := by decide +kernel
theorem dL_law_1347 : decode cL_law 1347 = .ok (.if_icmp .eq 535, 3) := by decide +kernel
theorem dL_law_1350 : decode cL_law 1350 = .ok (.iconst 0, 1) := by decide +kernel
theorem dL_law_1351 : decode cL_law 1351 = .ok (.ireturn, 1) := by decide +kernel
theorem dL_law_1352 : decode cL_law 1352 = .ok (.aload_n 1, 1) := by decide +kernel
theorem dL_law_1353 : decode cL_law 1353 = .ok (.aload_n 0, 1) := by decide +kernel
theorem dL_law_1354 : decode cL_law 1354 = .ok (.iload 4, 2) := by decide +kernel
theorem dL_law_1356 : decode cL_law 1356 = .ok (.iconst 1, 1) := by decide +kernel
theorem dL_law_1357 : decode cL_law 1357 = .ok (.iadd, 1) := by decide +kernel
theorem dL_law_1358 : decode cL_law 1358 = .ok (.iaload, 1) := by decide +kernel
theorem dL_law_1359 : decode cL_law 1359 = .ok (.invokevirtual 183, 3) := by decide +kernel
theorem dL_law_1362 : decode cL_law 1362 = .ok (.aload_n 2, 1) := by decide +kernel
theorem dL_law_1363 : decode cL_law 1363 = .ok (.aload_n 0, 1) := by decide +kernel
theorem dL_law_1364 : decode cL_law 1364 = .ok (.iload 4, 2) := by decide +kernel
theorem dL_law_1366 : decode cL_law 1366 = .ok (.iconst 1, 1) := by decide +kernel
theorem dL_law_1367 : decode cL_law 1367 = .ok (.iadd, 1) := by decide +kernel
theorem dL_law_1368 : decode cL_law 1368 = .ok (.iaload, 1) := by decide +kernel
theorem dL_law_1369 : decode cL_law 1369 = .ok (.invokevirtual 186, 3) := by decide +kernel
theorem dL_law_1372 : decode cL_law 1372 = .ok (.if_icmp .eq 510, 3) := by decide +kernel
theorem dL_law_1375 : decode cL_law 1375 = .ok (.iconst 0, 1) := by decide +kernel
theorem dL_law_1376 : decode cL_law 1376 = .ok (.ireturn, 1) := by decide +kernel
theorem dL_law_1377 : decode cL_law 1377 = .ok (.aload_n 1, 1) := by decide +kernel
theorem dL_law_1378 : decode cL_law 1378 = .ok (.aload_n 0, 1) := by decide +kernel
theorem dL_law_1379 : decode cL_law 1379 = .ok (.iload 4, 2) := by decide +kernel
theorem dL_law_1381 : decode cL_law 1381 = .ok (.iconst 1, 1) := by decide +kernel
theorem dL_law_1382 : decode cL_law 1382 = .ok (.iadd, 1) := by decide +kernel
theorem dL_law_1383 : decode cL_law 1383 = .ok (.iaload, 1) := by decide +kernel
theorem dL_law_1384 : decode cL_law 1384 = .ok (.invokevirtual 187, 3) := by decide +kernel
theorem dL_law_1387 : decode cL_law 1387 = .ok (.aload_n 2, 1) := by decide +kernel
theorem dL_law_1388 : decode cL_law 1388 = .ok (.aload_n 0, 1) := by decide +kernel
theorem dL_law_1389 : decode cL_law 1389 = .ok (.iload 4, 2) := by decide +kernel
theorem dL_law_1391 : decode cL_law 1391 = .ok (.iconst 1, 1) := by decide +kernel
theorem dL_law_1392 : decode cL_law 1392 = .ok (.iadd, 1) := by decide +kernel
theorem dL_law_1393 : decode cL_law 1393 = .ok (.iaload, 1) := by decide +kernel
theorem dL_law_1394 : decode cL_law 1394 = .ok (.invokevirtual 190, 3) := by decide +kernel
theorem dL_law_1397 : decode cL_law 1397 = .ok (.if_icmp .eq 485, 3) := by decide +kernel
theorem dL_law_1400 : decode cL_law 1400 = .ok (.iconst 0, 1) := by decide +kernel
theorem dL_law_1401 : decode cL_law 1401 = .ok (.ireturn, 1) := by decide +kernel
theorem dL_law_1402 : decode cL_law 1402 = .ok (.aload_n 1, 1) := by decide +kernel
theorem dL_law_1403 : decode cL_law 1403 = .ok (.aload_n 0, 1) := by decide +kernel
theorem dL_law_1404 : decode cL_law 1404 = .ok (.iload 4, 2) := by decide +kernel
theorem dL_law_1406 : decode cL_law 1406 = .ok (.iconst 1, 1) := by decide +kernel
theorem dL_law_1407 : decode cL_law 1407 = .ok (.iadd, 1) := by decide +kernel
theorem dL_law_1408 : decode cL_law 1408 = .ok (.iaload, 1) := by decide +kernel
theorem dL_law_1409 : decode cL_law 1409 = .ok (.aload_n 0, 1) := by decide +kernel
theorem dL_law_1410 : decode cL_law 1410 = .ok (.iload 4, 2) := by decide +kernel
theorem dL_law_1412 : decode cL_law 1412 = .ok (.iconst 2, 1) := by decide +kernel
theorem dL_law_1413 : decode cL_law 1413 = .ok (.iadd, 1) := by decide +kernel
theorem dL_law_1414 : decode cL_law 1414 = .ok (.iaload, 1) := by decide +kernel
theorem dL_law_1415 : decode cL_law 1415 = .ok (.aload_n 0, 1) := by decide +kernel
theorem dL_law_1416 : decode cL_law 1416 = .ok (.iload 4, 2) := by decide +kernel
theorem dL_law_1418 : decode cL_law 1418 = .ok (.iconst 3, 1) := by decide +kernel
theorem dL_law_1419 : decode cL_law 1419 = .ok (.iadd, 1) := by decide +kernel
theorem dL_law_1420 : decode cL_law 1420 = .ok (.iaload, 1) := by decide +kernel
theorem dL_law_1421 : decode cL_law 1421 = .ok (.ifCond .eq 7, 3) := by decide +kernel
theorem dL_law_1424 : decode cL_law 1424 = .ok (.iconst 1, 1) := by decide +kernel
theorem dL_law_1425 : decode cL_law 1425 = .ok (.goto 4, 3) := by decide +kernel
theorem dL_law_1428 : decode cL_law 1428 = .ok (.iconst 0, 1) := by decide +kernel
theorem dL_law_1429 : decode cL_law 1429 = .ok (.invokevirtual 191, 3) := by decide +kernel
theorem dL_law_1432 : decode cL_law 1432 = .ok (.aload_n 2, 1) := by decide +kernel
theorem dL_law_1433 : decode cL_law 1433 = .ok (.aload_n 0, 1) := by decide +kernel
theorem dL_law_1434 : decode cL_law 1434 = .ok (.iload 4, 2) := by decide +kernel
theorem dL_law_1436 : decode cL_law 1436 = .ok (.iconst 1, 1) := by decide +kernel
theorem dL_law_1437 : decode cL_law 1437 = .ok (.iadd, 1) := by decide +kernel
theorem dL_law_1438 : decode cL_law 1438 = .ok (.iaload, 1) := by decide +kernel
theorem dL_law_1439 : decode cL_law 1439 = .ok (.aload_n 0, 1) := by decide +kernel
theorem dL_law_1440 : decode cL_law 1440 = .ok (.iload 4, 2) := by decide +kernel
theorem dL_law_1442 : decode cL_law 1442 = .ok (.iconst 2, 1) := by decide +kernel
theorem dL_law_1443 : decode cL_law 1443 = .ok (.iadd, 1) := by decide +kernel
theorem dL_law_1444 : decode cL_law 1444 = .ok (.iaload, 1) := by decide +kernel
theorem dL_law_1445 : decode cL_law 1445 = .ok (.aload_n 0, 1) := by decide +kernel
theorem dL_law_1446 : decode cL_law 1446 = .ok (.iload 4, 2) := by decide +kernel
theorem dL_law_1448 : decode cL_law 1448 = .ok (.iconst 3, 1) := by decide +kernel
theorem dL_law_1449 : decode cL_law 1449 = .ok (.iadd, 1) := by decide +kernel
theorem dL_law_1450 : decode cL_law 1450 = .ok (.iaload, 1) := by decide +kernel
theorem dL_law_1451 : decode cL_law 1451 = .ok (.ifCond .eq 7, 3) := by decide +kernel
theorem dL_law_1454 : decode cL_law 1454 = .ok (.iconst 1, 1) := by decide +kernel
theorem dL_law_1455 : decode cL_law 1455 = .ok (.goto 4, 3) := by decide +kernel
theorem dL_law_1458 : decode cL_law 1458 = .ok (.iconst 0, 1) := by decide +kernel
theorem dL_law_1459 : decode cL_law 1459 = .ok (.invokevirtual 195, 3) := by decide +kernel
theorem dL_law_1462 : decode cL_law 1462 = .ok (.lcmp, 1) := by decide +kernel
theorem dL_law_1463 : decode cL_law 1463 = .ok (.ifCond .eq 419, 3) := by decide +kernel
theorem dL_law_1466 : decode cL_law 1466 = .ok (.iconst 0, 1) := by decide +kernel
theorem dL_law_1467 : decode cL_law 1467 = .ok (.ireturn, 1) := by decide +kernel
theorem dL_law_1468 : decode cL_law 1468 = .ok (.aload_n 1, 1) := by decide +kernel
theorem dL_law_1469 : decode cL_law 1469 = .ok (.aload_n 0, 1) := by decide +kernel
theorem dL_law_1470 : decode cL_law 1470 = .ok (.iload 4, 2) := by decide +kernel
theorem dL_law_1472 : decode cL_law 1472 = .ok (.iconst 1, 1) := by decide +kernel
theorem dL_law_1473 : decode cL_law 1473 = .ok (.iadd, 1) := by decide +kernel
theorem dL_law_1474 : decode cL_law 1474 = .ok (.iaload, 1) := by decide +kernel
theorem dL_law_1475 : decode cL_law 1475 = .ok (.aload_n 0, 1) := by decide +kernel
theorem dL_law_1476 : decode cL_law 1476 = .ok (.iload 4, 2) := by decide +kernel
theorem dL_law_1478 : decode cL_law 1478 = .ok (.iconst 2, 1) := by decide +kernel
theorem dL_law_1479 : decode cL_law 1479 = .ok (.iadd, 1) := by decide +kernel
theorem dL_law_1480 : decode cL_law 1480 = .ok (.iaload, 1) := by decide +kernel
theorem dL_law_1481 : decode cL_law 1481 = .ok (.aload_n 0, 1) := by decide +kernel
theorem dL_law_1482 : decode cL_law 1482 = .ok (.iload 4, 2) := by decide +kernel
theorem dL_law_1484 : decode cL_law 1484 = .ok (.iconst 3, 1) := by decide +kernel
theorem dL_law_1485 : decode cL_law 1485 = .ok (.iadd, 1) := by decide +kernel
theorem dL_law_1486 : decode cL_law 1486 = .ok (.iaload, 1) := by decide +kernel
theorem dL_law_1487 : decode cL_law 1487 = .ok (.ifCond .eq 7, 3) := by decide +kernel
theorem dL_law_1490 : decode cL_law 1490 = .ok (.iconst 1, 1) := by decide +kernel
theorem dL_law_1491 : decode cL_law 1491 = .ok (.goto 4, 3) := by decide +kernel
theorem dL_law_1494 : decode cL_law 1494 = .ok (.iconst 0, 1) := by decide +kernel
theorem dL_law_1495 : decode cL_law 1495 = .ok (.invokevirtual 196, 3) := by decide +kernel
theorem dL_law_1498 : decode cL_law 1498 = .ok (.aload_n 2, 1) := by decide +kernel
theorem dL_law_1499 : decode cL_law 1499 = .ok (.aload_n 0, 1) := by decide +kernel
theorem dL_law_1500 : decode cL_law 1500 = .ok (.iload 4, 2) := by decide +kernel
theorem dL_law_1502 : decode cL_law 1502 = .ok (.iconst 1, 1) := by decide +kernel
theorem dL_law_1503 : decode cL_law 1503 = .ok (.iadd, 1) := by decide +kernel
theorem dL_law_1504 : decode cL_law 1504 = .ok (.iaload, 1) := by decide +kernel
theorem dL_law_1505 : decode cL_law 1505 = .ok (.aload_n 0, 1) := by decide +kernel
theorem dL_law_1506 : decode cL_law 1506 = .ok (.iload 4, 2) := by decide +kernel
theorem dL_law_1508 : decode cL_law 1508 = .ok (.iconst 2, 1) := by decide +kernel
theorem dL_law_1509 : decode cL_law 1509 = .ok (.iadd, 1) := by decide +kernel
theorem dL_law_1510 : decode cL_law 1510 = .ok (.iaload, 1) := by decide +kernel
theorem dL_law_1511 : decode cL_law 1511 = .ok (.aload_n 0, 1) := by decide +kernel
theorem dL_law_1512 : decode cL_law 1512 = .ok (.iload 4, 2) := by decide +kernel
theorem dL_law_1514 : decode cL_law 1514 = .ok (.iconst 3, 1) := by decide +kernel
theorem dL_law_1515 : decode cL_law 1515 = .ok (.iadd, 1) := by decide +kernel
theorem dL_law_1516 : decode cL_law 1516 = .ok (.iaload, 1) := by decide +kernel
theorem dL_law_1517 : decode cL_law 1517 = .ok (.ifCond .eq 7, 3) := by decide +kernel
theorem dL_law_1520 : decode cL_law 1520 = .ok (.iconst 1, 1) := by decide +kernel
theorem dL_law_1521 : decode cL_law 1521 = .ok (.goto 4, 3) := by decide +kernel
theorem dL_law_1524 : decode cL_law 1524 = .ok (.iconst 0, 1) := by decide +kernel
theorem dL_law_1525 : decode cL_law 1525 = .ok (.invokevirtual 199, 3) := by decide +kernel
theorem dL_law_1528 : decode cL_law 1528 = .ok (.lcmp, 1) := by decide +kernel
theorem dL_law_1529 : decode cL_law 1529 = .ok (.ifCond .eq 353, 3) := by decide +kernel
theorem dL_law_1532 : decode cL_law 1532 = .ok (.iconst 0, 1) := by decide +kernel
theorem dL_law_1533 : decode cL_law 1533 = .ok (.ireturn, 1) := by decide +kernel
theorem dL_law_1534 : decode cL_law 1534 = .ok (.aload_n 1, 1) := by decide +kernel
theorem dL_law_1535 : decode cL_law 1535 = .ok (.aload_n 0, 1) := by decide +kernel
theorem dL_law_1536 : decode cL_law 1536 = .ok (.iload 4, 2) := by decide +kernel
theorem dL_law_1538 : decode cL_law 1538 = .ok (.iconst 1, 1) := by decide +kernel
theorem dL_law_1539 : decode cL_law 1539 = .ok (.iadd, 1) := by decide +kernel
theorem dL_law_1540 : decode cL_law 1540 = .ok (.iaload, 1) := by decide +kernel
theorem dL_law_1541 : decode cL_law 1541 = .ok (.aload_n 0, 1) := by decide +kernel
theorem dL_law_1542 : decode cL_law 1542 = .ok (.iload 4, 2) := by decide +kernel
theorem dL_law_1544 : decode cL_law 1544 = .ok (.iconst 2, 1) := by decide +kernel
theorem dL_law_1545 : decode cL_law 1545 = .ok (.iadd, 1) := by decide +kernel
theorem dL_law_1546 : decode cL_law 1546 = .ok (.iaload, 1) := by decide +kernel
theorem dL_law_1547 : decode cL_law 1547 = .ok (.ifCond .eq 7, 3) := by decide +kernel
theorem dL_law_1550 : decode cL_law 1550 = .ok (.iconst 1, 1) := by decide +kernel
theorem dL_law_1551 : decode cL_law 1551 = .ok (.goto 4, 3) := by decide +kernel
theorem dL_law_1554 : decode cL_law 1554 = .ok (.iconst 0, 1) := by decide +kernel
theorem dL_law_1555 : decode cL_law 1555 = .ok (.invokevirtual 200, 3) := by decide +kernel
theorem dL_law_1558 : decode cL_law 1558 = .ok (.aload_n 2, 1) := by decide +kernel
theorem dL_law_1559 : decode cL_law 1559 = .ok (.aload_n 0, 1) := by decide +kernel
theorem dL_law_1560 : decode cL_law 1560 = .ok (.iload 4, 2) := by decide +kernel
theorem dL_law_1562 : decode cL_law 1562 = .ok (.iconst 1, 1) := by decide +kernel
theorem dL_law_1563 : decode cL_law 1563 = .ok (.iadd, 1) := by decide +kernel
theorem dL_law_1564 : decode cL_law 1564 = .ok (.iaload, 1) := by decide +kernel
theorem dL_law_1565 : decode cL_law 1565 = .ok (.aload_n 0, 1) := by decide +kernel
theorem dL_law_1566 : decode cL_law 1566 = .ok (.iload 4, 2) := by decide +kernel
theorem dL_law_1568 : decode cL_law 1568 = .ok (.iconst 2, 1) := by decide +kernel
theorem dL_law_1569 : decode cL_law 1569 = .ok (.iadd, 1) := by decide +kernel
theorem dL_law_1570 : decode cL_law 1570 = .ok (.iaload, 1) := by decide +kernel
theorem dL_law_1571 : decode cL_law 1571 = .ok (.ifCond .eq 7, 3) := by decide +kernel
theorem dL_law_1574 : decode cL_law 1574 = .ok (.iconst 1, 1) := by decide +kernel
theorem dL_law_1575 : decode cL_law 1575 = .ok (.goto 4, 3) := by decide +kernel
theorem dL_law_1578 : decode cL_law 1578 = .ok (.iconst 0, 1) := by decide +kernel
theorem dL_law_1579 : decode cL_law 1579 = .ok (.invokevirtual 204, 3) := by decide +kernel
theorem dL_law_1582 : decode cL_law 1582 = .ok (.lcmp, 1) := by decide +kernel
theorem dL_law_1583 : decode cL_law 1583 = .ok (.ifCond .eq 299, 3) := by decide +kernel
theorem dL_law_1586 : decode cL_law 1586 = .ok (.iconst 0, 1) := by decide +kernel
theorem dL_law_1587 : decode cL_law 1587 = .ok (.ireturn, 1) := by decide +kernel
theorem dL_law_1588 : decode cL_law 1588 = .ok (.aload_n 1, 1) := by decide +kernel
theorem dL_law_1589 : decode cL_law 1589 = .ok (.aload_n 0, 1) := by decide +kernel
theorem dL_law_1590 : decode cL_law 1590 = .ok (.iload 4, 2) := by decide +kernel
theorem dL_law_1592 : decode cL_law 1592 = .ok (.iconst 1, 1) := by decide +kernel
theorem dL_law_1593 : decode cL_law 1593 = .ok (.iadd, 1) := by decide +kernel
theorem dL_law_1594 : decode cL_law 1594 = .ok (.iaload, 1) := by decide +kernel
theorem dL_law_1595 : decode cL_law 1595 = .ok (.aload_n 0, 1) := by decide +kernel
theorem dL_law_1596 : decode cL_law 1596 = .ok (.iload 4, 2) := by decide +kernel
theorem dL_law_1598 : decode cL_law 1598 = .ok (.iconst 2, 1) := by decide +kernel
theorem dL_law_1599 : decode cL_law 1599 = .ok (.iadd, 1) := by decide +kernel
theorem dL_law_1600 : decode cL_law 1600 = .ok (.iaload, 1) := by decide +kernel
theorem dL_law_1601 : decode cL_law 1601 = .ok (.invokevirtual 205, 3) := by decide +kernel
theorem dL_law_1604 : decode cL_law 1604 = .ok (.aload_n 2, 1) := by decide +kernel
theorem dL_law_1605 : decode cL_law 1605 = .ok (.aload_n 0, 1) := by decide +kernel
theorem dL_law_1606 : decode cL_law 1606 = .ok (.iload 4, 2) := by decide +kernel
theorem dL_law_1608 : decode cL_law 1608 = .ok (.iconst 1, 1) := by decide +kernel
theorem dL_law_1609 : decode cL_law 1609 = .ok (.iadd, 1) := by decide +kernel
theorem dL_law_1610 : decode cL_law 1610 = .ok (.iaload, 1) := by decide +kernel
theorem dL_law_1611 : decode cL_law 1611 = .ok (.aload_n 0, 1) := by decide +kernel
theorem dL_law_1612 : decode cL_law 1612 = .ok (.iload 4, 2) := by decide +kernel
theorem dL_law_1614 : decode cL_law 1614 = .ok (.iconst 2, 1) := by decide +kernel
theorem dL_law_1615 : decode cL_law 1615 = .ok (.iadd, 1) := by decide +kernel
theorem dL_law_1616 : decode cL_law 1616 = .ok (.iaload, 1) := by decide +kernel
theorem dL_law_1617 : decode cL_law 1617 = .ok (.invokevirtual 208, 3) := by decide +kernel
theorem dL_law_1620 : decode cL_law 1620 = .ok (.if_icmp .eq 262, 3) := by decide +kernel
theorem dL_law_1623 : decode cL_law 1623 = .ok (.iconst 0, 1) := by decide +kernel
theorem dL_law_1624 : decode cL_law 1624 = .ok (.ireturn, 1) := by decide +kernel
theorem dL_law_1625 : decode cL_law 1625 = .ok (.aload_n 1, 1) := by decide +kernel
theorem dL_law_1626 : decode cL_law 1626 = .ok (.aload_n 0, 1) := by decide +kernel
theorem dL_law_1627 : decode cL_law 1627 = .ok (.iload 4, 2) := by decide +kernel
theorem dL_law_1629 : decode cL_law 1629 = .ok (.iconst 1, 1) := by decide +kernel
theorem dL_law_1630 : decode cL_law 1630 = .ok (.iadd, 1) := by decide +kernel
theorem dL_law_1631 : decode cL_law 1631 = .ok (.iaload, 1) := by decide +kernel
theorem dL_law_1632 : decode cL_law 1632 = .ok (.invokevirtual 209, 3) := by decide +kernel
theorem dL_law_1635 : decode cL_law 1635 = .ok (.aload_n 2, 1) := by decide +kernel
theorem dL_law_1636 : decode cL_law 1636 = .ok (.aload_n 0, 1) := by decide +kernel
theorem dL_law_1637 : decode cL_law 1637 = .ok (.iload 4, 2) := by decide +kernel
theorem dL_law_1639 : decode cL_law 1639 = .ok (.iconst 1, 1) := by decide +kernel
theorem dL_law_1640 : decode cL_law 1640 = .ok (.iadd, 1) := by decide +kernel
theorem dL_law_1641 : decode cL_law 1641 = .ok (.iaload, 1) := by decide +kernel
theorem dL_law_1642 : decode cL_law 1642 = .ok (.invokevirtual 212, 3) := by decide +kernel
theorem dL_law_1645 : decode cL_law 1645 = .ok (.if_icmp .eq 237, 3) := by decide +kernel
theorem dL_law_1648 : decode cL_law 1648 = .ok (.iconst 0, 1) := by decide +kernel
theorem dL_law_1649 : decode cL_law 1649 = .ok (.ireturn, 1) := by decide +kernel
theorem dL_law_1650 : decode cL_law 1650 = .ok (.aload_n 1, 1) := by decide +kernel
theorem dL_law_1651 : decode cL_law 1651 = .ok (.invokevirtual 213, 3) := by decide +kernel
theorem dL_law_1654 : decode cL_law 1654 = .ok (.aload_n 2, 1) := by decide +kernel
theorem dL_law_1655 : decode cL_law 1655 = .ok (.invokevirtual 216, 3) := by decide +kernel
theorem dL_law_1658 : decode cL_law 1658 = .ok (.if_icmp .eq 224, 3) := by decide +kernel
theorem dL_law_1661 : decode cL_law 1661 = .ok (.iconst 0, 1) := by decide +kernel
theorem dL_law_1662 : decode cL_law 1662 = .ok (.ireturn, 1) := by decide +kernel
theorem dL_law_1663 : decode cL_law 1663 = .ok (.aload_n 1, 1) := by decide +kernel
theorem dL_law_1664 : decode cL_law 1664 = .ok (.aload_n 0, 1) := by decide +kernel
theorem dL_law_1665 : decode cL_law 1665 = .ok (.iload 4, 2) := by decide +kernel
theorem dL_law_1667 : decode cL_law 1667 = .ok (.iconst 1, 1) := by decide +kernel
theorem dL_law_1668 : decode cL_law 1668 = .ok (.iadd, 1) := by decide +kernel
theorem dL_law_1669 : decode cL_law 1669 = .ok (.iaload, 1) := by decide +kernel
theorem dL_law_1670 : decode cL_law 1670 = .ok (.aload_n 0, 1) := by decide +kernel
theorem dL_law_1671 : decode cL_law 1671 = .ok (.iload 4, 2) := by decide +kernel
theorem dL_law_1673 : decode cL_law 1673 = .ok (.iconst 2, 1) := by decide +kernel
theorem dL_law_1674 : decode cL_law 1674 = .ok (.iadd, 1) := by decide +kernel
theorem dL_law_1675 : decode cL_law 1675 = .ok (.iaload, 1) := by decide +kernel
theorem dL_law_1676 : decode cL_law 1676 = .ok (.invokevirtual 217, 3) := by decide +kernel
theorem dL_law_1679 : decode cL_law 1679 = .ok (.aload_n 2, 1) := by decide +kernel
theorem dL_law_1680 : decode cL_law 1680 = .ok (.aload_n 0, 1) := by decide +kernel
theorem dL_law_1681 : decode cL_law 1681 = .ok (.iload 4, 2) := by decide +kernel
theorem dL_law_1683 : decode cL_law 1683 = .ok (.iconst 1, 1) := by decide +kernel
theorem dL_law_1684 : decode cL_law 1684 = .ok (.iadd, 1) := by decide +kernel
theorem dL_law_1685 : decode cL_law 1685 = .ok (.iaload, 1) := by decide +kernel
theorem dL_law_1686 : decode cL_law 1686 = .ok (.aload_n 0, 1) := by decide +kernel
theorem dL_law_1687 : decode cL_law 1687 = .ok (.iload 4, 2) := by decide +kernel
theorem dL_law_1689 : decode cL_law 1689 = .ok (.iconst 2, 1) := by decide +kernel
theorem dL_law_1690 : decode cL_law 1690 = .ok (.iadd, 1) := by decide +kernel
theorem dL_law_1691 : decode cL_law 1691 = .ok (.iaload, 1) := by decide +kernel
theorem dL_law_1692 : decode cL_law 1692 = .ok (.invokevirtual 220, 3) := by decide +kernel
theorem dL_law_1695 : decode cL_law 1695 = .ok (.if_icmp .eq 187, 3) := by decide +kernel
theorem dL_law_1698 : decode cL_law 1698 = .ok (.iconst 0, 1) := by decide +kernel
theorem dL_law_1699 : decode cL_law 1699 = .ok (.ireturn, 1) := by decide +kernel
theorem dL_law_1700 : decode cL_law 1700 = .ok (.aload_n 1, 1) := by decide +kernel
theorem dL_law_1701 : decode cL_law 1701 = .ok (.aload_n 0, 1) := by decide +kernel
theorem dL_law_1702 : decode cL_law 1702 = .ok (.iload 4, 2) := by decide +kernel
theorem dL_law_1704 : decode cL_law 1704 = .ok (.iconst 1, 1) := by decide +kernel
theorem dL_law_1705 : decode cL_law 1705 = .ok (.iadd, 1) := by decide +kernel
theorem dL_law_1706 : decode cL_law 1706 = .ok (.iaload, 1) := by decide +kernel
theorem dL_law_1707 : decode cL_law 1707 = .ok (.aload_n 0, 1) := by decide +kernel
theorem dL_law_1708 : decode cL_law 1708 = .ok (.iload 4, 2) := by decide +kernel
theorem dL_law_1710 : decode cL_law 1710 = .ok (.iconst 2, 1) := by decide +kernel
theorem dL_law_1711 : decode cL_law 1711 = .ok (.iadd, 1) := by decide +kernel
theorem dL_law_1712 : decode cL_law 1712 = .ok (.iaload, 1) := by decide +kernel
theorem dL_law_1713 : decode cL_law 1713 = .ok (.invokevirtual 221, 3) := by decide +kernel
theorem dL_law_1716 : decode cL_law 1716 = .ok (.aload_n 2, 1) := by decide +kernel
theorem dL_law_1717 : decode cL_law 1717 = .ok (.aload_n 0, 1) := by decide +kernel
theorem dL_law_1718 : decode cL_law 1718 = .ok (.iload 4, 2) := by decide +kernel
theorem dL_law_1720 : decode cL_law 1720 = .ok (.iconst 1, 1) := by decide +kernel
theorem dL_law_1721 : decode cL_law 1721 = .ok (.iadd, 1) := by decide +kernel
theorem dL_law_1722 : decode cL_law 1722 = .ok (.iaload, 1) := by decide +kernel
theorem dL_law_1723 : decode cL_law 1723 = .ok (.aload_n 0, 1) := by decide +kernel
theorem dL_law_1724 : decode cL_law 1724 = .ok (.iload 4, 2) := by decide +kernel
theorem dL_law_1726 : decode cL_law 1726 = .ok (.iconst 2, 1) := by decide +kernel
theorem dL_law_1727 : decode cL_law 1727 = .ok (.iadd, 1) := by decide +kernel
theorem dL_law_1728 : decode cL_law 1728 = .ok (.iaload, 1) := by decide +kernel
theorem dL_law_1729 : decode cL_law 1729 = .ok (.invokevirtual 224, 3) := by decide +kernel
theorem dL_law_1732 : decode cL_law 1732 = .ok (.if_icmp .eq 150, 3) := by decide +kernel
theorem dL_law_1735 : decode cL_law 1735 = .ok (.iconst 0, 1) := by decide +kernel
theorem dL_law_1736 : decode cL_law 1736 = .ok (.ireturn, 1) := by decide +kernel
theorem dL_law_1737 : decode cL_law 1737 = .ok (.aload_n 1, 1) := by decide +kernel
theorem dL_law_1738 : decode cL_law 1738 = .ok (.invokevirtual 225, 3) := by decide +kernel
theorem dL_law_1741 : decode cL_law 1741 = .ok (.aload_n 2, 1) := by decide +kernel
theorem dL_law_1742 : decode cL_law 1742 = .ok (.invokevirtual 229, 3) := by decide +kernel
theorem dL_law_1745 : decode cL_law 1745 = .ok (.if_icmp .eq 137, 3) := by decide +kernel
theorem dL_law_1748 : decode cL_law 1748 = .ok (.iconst 0, 1) := by decide +kernel
theorem dL_law_1749 : decode cL_law 1749 = .ok (.ireturn, 1) := by decide +kernel
theorem dL_law_1750 : decode cL_law 1750 = .ok (.aload_n 1, 1) := by decide +kernel
theorem dL_law_1751 : decode cL_law 1751 = .ok (.invokevirtual 230, 3) := by decide +kernel
theorem dL_law_1754 : decode cL_law 1754 = .ok (.aload_n 2, 1) := by decide +kernel
theorem dL_law_1755 : decode cL_law 1755 = .ok (.invokevirtual 233, 3) := by decide +kernel
theorem dL_law_1758 : decode cL_law 1758 = .ok (.if_icmp .eq 124, 3) := by decide +kernel
theorem dL_law_1761 : decode cL_law 1761 = .ok (.iconst 0, 1) := by decide +kernel
theorem dL_law_1762 : decode cL_law 1762 = .ok (.ireturn, 1) := by decide +kernel
theorem dL_law_1763 : decode cL_law 1763 = .ok (.aload_n 1, 1) := by decide +kernel
theorem dL_law_1764 : decode cL_law 1764 = .ok (.aload_n 0, 1) := by decide +kernel
theorem dL_law_1765 : decode cL_law 1765 = .ok (.iload 4, 2) := by decide +kernel
theorem dL_law_1767 : decode cL_law 1767 = .ok (.iconst 1, 1) := by decide +kernel
theorem dL_law_1768 : decode cL_law 1768 = .ok (.iadd, 1) := by decide +kernel
theorem dL_law_1769 : decode cL_law 1769 = .ok (.iaload, 1) := by decide +kernel
theorem dL_law_1770 : decode cL_law 1770 = .ok (.invokevirtual 234, 3) := by decide +kernel
theorem dL_law_1773 : decode cL_law 1773 = .ok (.aload_n 2, 1) := by decide +kernel
theorem dL_law_1774 : decode cL_law 1774 = .ok (.aload_n 0, 1) := by decide +kernel
theorem dL_law_1775 : decode cL_law 1775 = .ok (.iload 4, 2) := by decide +kernel
theorem dL_law_1777 : decode cL_law 1777 = .ok (.iconst 1, 1) := by decide +kernel
theorem dL_law_1778 : decode cL_law 1778 = .ok (.iadd, 1) := by decide +kernel
theorem dL_law_1779 : decode cL_law 1779 = .ok (.iaload, 1) := by decide +kernel
theorem dL_law_1780 : decode cL_law 1780 = .ok (.invokevirtual 238, 3) := by decide +kernel
theorem dL_law_1783 : decode cL_law 1783 = .ok (.if_icmp .eq 99, 3) := by decide +kernel
theorem dL_law_1786 : decode cL_law 1786 = .ok (.iconst 0, 1) := by decide +kernel
theorem dL_law_1787 : decode cL_law 1787 = .ok (.ireturn, 1) := by decide +kernel
theorem dL_law_1788 : decode cL_law 1788 = .ok (.aload_n 1, 1) := by decide +kernel
theorem dL_law_1789 : decode cL_law 1789 = .ok (.aload_n 0, 1) := by decide +kernel
theorem dL_law_1790 : decode cL_law 1790 = .ok (.iload 4, 2) := by decide +kernel
theorem dL_law_1792 : decode cL_law 1792 = .ok (.iconst 1, 1) := by decide +kernel
theorem dL_law_1793 : decode cL_law 1793 = .ok (.iadd, 1) := by decide +kernel
theorem dL_law_1794 : decode cL_law 1794 = .ok (.iaload, 1) := by decide +kernel
theorem dL_law_1795 : decode cL_law 1795 = .ok (.aload_n 3, 1) := by decide +kernel
theorem dL_law_1796 : decode cL_law 1796 = .ok (.invokestatic 239, 3) := by decide +kernel
theorem dL_law_1799 : decode cL_law 1799 = .ok (.istore 5, 2) := by decide +kernel
theorem dL_law_1801 : decode cL_law 1801 = .ok (.aload_n 2, 1) := by decide +kernel
theorem dL_law_1802 : decode cL_law 1802 = .ok (.aload_n 0, 1) := by decide +kernel
theorem dL_law_1803 : decode cL_law 1803 = .ok (.iload 4, 2) := by decide +kernel
theorem dL_law_1805 : decode cL_law 1805 = .ok (.iconst 1, 1) := by decide +kernel
theorem dL_law_1806 : decode cL_law 1806 = .ok (.iadd, 1) := by decide +kernel
theorem dL_law_1807 : decode cL_law 1807 = .ok (.iaload, 1) := by decide +kernel
theorem dL_law_1808 : decode cL_law 1808 = .ok (.invokevirtual 244, 3) := by decide +kernel
theorem dL_law_1811 : decode cL_law 1811 = .ok (.istore 6, 2) := by decide +kernel
theorem dL_law_1813 : decode cL_law 1813 = .ok (.aload_n 2, 1) := by decide +kernel
theorem dL_law_1814 : decode cL_law 1814 = .ok (.invokevirtual 245, 3) := by decide +kernel
theorem dL_law_1817 : decode cL_law 1817 = .ok (.iload 5, 2) := by decide +kernel
theorem dL_law_1819 : decode cL_law 1819 = .ok (.if_icmp .eq 5, 3) := by decide +kernel
theorem dL_law_1822 : decode cL_law 1822 = .ok (.iconst 0, 1) := by decide +kernel
theorem dL_law_1823 : decode cL_law 1823 = .ok (.ireturn, 1) := by decide +kernel
theorem dL_law_1824 : decode cL_law 1824 = .ok (.iload 5, 2) := by decide +kernel
theorem dL_law_1826 : decode cL_law 1826 = .ok (.ifCond .ne 15, 3) := by decide +kernel
theorem dL_law_1829 : decode cL_law 1829 = .ok (.aload_n 3, 1) := by decide +kernel
theorem dL_law_1830 : decode cL_law 1830 = .ok (.iconst 0, 1) := by decide +kernel
theorem dL_law_1831 : decode cL_law 1831 = .ok (.laload, 1) := by decide +kernel
theorem dL_law_1832 : decode cL_law 1832 = .ok (.iload 6, 2) := by decide +kernel
theorem dL_law_1834 : decode cL_law 1834 = .ok (.i2l, 1) := by decide +kernel
theorem dL_law_1835 : decode cL_law 1835 = .ok (.lcmp, 1) := by decide +kernel
theorem dL_law_1836 : decode cL_law 1836 = .ok (.ifCond .eq 5, 3) := by decide +kernel
theorem dL_law_1839 : decode cL_law 1839 = .ok (.iconst 0, 1) := by decide +kernel
theorem dL_law_1840 : decode cL_law 1840 = .ok (.ireturn, 1) := by decide +kernel
theorem dL_law_1841 : decode cL_law 1841 = .ok (.goto 41, 3) := by decide +kernel
theorem dL_law_1844 : decode cL_law 1844 = .ok (.aload_n 1, 1) := by decide +kernel
theorem dL_law_1845 : decode cL_law 1845 = .ok (.aload_n 0, 1) := by decide +kernel
theorem dL_law_1846 : decode cL_law 1846 = .ok (.iload 4, 2) := by decide +kernel
theorem dL_law_1848 : decode cL_law 1848 = .ok (.iconst 1, 1) := by decide +kernel
theorem dL_law_1849 : decode cL_law 1849 = .ok (.iadd, 1) := by decide +kernel
theorem dL_law_1850 : decode cL_law 1850 = .ok (.iaload, 1) := by decide +kernel
theorem dL_law_1851 : decode cL_law 1851 = .ok (.invokevirtual 248, 3) := by decide +kernel
theorem dL_law_1854 : decode cL_law 1854 = .ok (.aload_n 2, 1) := by decide +kernel
theorem dL_law_1855 : decode cL_law 1855 = .ok (.aload_n 0, 1) := by decide +kernel
theorem dL_law_1856 : decode cL_law 1856 = .ok (.iload 4, 2) := by decide +kernel
theorem dL_law_1858 : decode cL_law 1858 = .ok (.iconst 1, 1) := by decide +kernel
theorem dL_law_1859 : decode cL_law 1859 = .ok (.iadd, 1) := by decide +kernel
theorem dL_law_1860 : decode cL_law 1860 = .ok (.iaload, 1) := by decide +kernel
theorem dL_law_1861 : decode cL_law 1861 = .ok (.invokevirtual 251, 3) := by decide +kernel
theorem dL_law_1864 : decode cL_law 1864 = .ok (.if_icmp .eq 18, 3) := by decide +kernel
theorem dL_law_1867 : decode cL_law 1867 = .ok (.iconst 0, 1) := by decide +kernel
theorem dL_law_1868 : decode cL_law 1868 = .ok (.ireturn, 1) := by decide +kernel
theorem dL_law_1869 : decode cL_law 1869 = .ok (.aload_n 1, 1) := by decide +kernel
theorem dL_law_1870 : decode cL_law 1870 = .ok (.invokevirtual 252, 3) := by decide +kernel
theorem dL_law_1873 : decode cL_law 1873 = .ok (.aload_n 2, 1) := by decide +kernel
theorem dL_law_1874 : decode cL_law 1874 = .ok (.invokevirtual 255, 3) := by decide +kernel
theorem dL_law_1877 : decode cL_law 1877 = .ok (.if_icmp .eq 5, 3) := by decide +kernel
theorem dL_law_1880 : decode cL_law 1880 = .ok (.iconst 0, 1) := by decide +kernel
theorem dL_law_1881 : decode cL_law 1881 = .ok (.ireturn, 1) := by decide +kernel
theorem dL_law_1882 : decode cL_law 1882 = .ok (.iinc 4 6, 3) := by decide +kernel
theorem dL_law_1885 : decode cL_law 1885 = .ok (.goto (-1862), 3) := by decide +kernel
theorem dL_law_1888 : decode cL_law 1888 = .ok (.iconst 1, 1) := by decide +kernel
theorem dL_law_1889 : decode cL_law 1889 = .ok (.ireturn, 1) := by decide +kernel
